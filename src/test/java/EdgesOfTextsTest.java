/** The edges of "What it is", of Part I (but for POLYS) and of the promises 1 to 3. */
public final class EdgesOfTextsTest {
  /** Every call that reads, a text for it, of an even length, and what it answers to that. */
  private static final String[][] READERS = {
    {"tell 0", "-x", "2"},
    {"tell 1", "-x", "2"},
    {"tell 2", "-x", "1"},
    {"tell 3", "-x", "1"},
    {"tell 4", "-x;x", "3"},
    {"tell 5", "-x;x", "1"},
    {"tell 6", "-x;x", "1"},
    {"tell 7", "-x;x", "2"},
    {"tell 8", "-x;y", "2"},
    {"roots", "-x", "1"},
    {"signAt 0", "-x", "2"},
    {"below 2", "-x", "1"},
    {"points", "-x;y", "1"},
    {"signAtPoint 0", "-x", "2"},
    {"decide", "Exx=-1", "1"},
    {"solve", "x=-1", "1"},
    {"factors", "-x", "1"},
  };

  public static void main(String[] args) {
    answersUpToTheLastCall();
    isEmptyWhenNew();
    feedsTwentyBytes();
    feedsTheHighestFirst();
    hasAtMost400();
    readsAllOf400();
    readsTheFirstBytes();
    losesTheTape();
    refusesLengths();
    readsNothing();
    tellsWhereItEndsTooEarly();
    findsFaultsAheadOfRefusals();
    refusesAheadOfFaults();
    takesNoOtherBytes();
    takesNoOtherBytesInSentences();
    takesNoBlanks();
    losesWhatWasWritten();
    writesInBaseTen();
    tellsBytesOfTheOut();
    House.end();
  }

  /** A text of that size that means the same. */
  private static String padded(String text, int size) {
    return text + "+0".repeat((size - text.length()) / 2);
  }

  /** Every reader, on a tape that begins with a text of that size, reads n bytes. */
  private static void refusesAll(int size, int n) {
    for (String[] reader : READERS) {
      Furnished.unread(reader[0] + " " + n, padded(reader[1], size));
    }
  }

  /** "An object is used for at most 512 calls": the last of them answers as the first. */
  private static void answersUpToTheLastCall() {
    String[][] last = {
      {"tell 0 2", "2"}, {"roots 2", "1"}, {"times 1", "2"}, {"root 0 6", "3"}, {"signAt 0 2", "2"},
      {"below 2 2", "1"}, {"points 4", "1"}, {"point 0 0 1", "2"}, {"signAtPoint 0 2", "2"},
      {"decide 6", "1"}, {"solve 4", "1"}, {"piece 1 4", "1"}, {"edge 0 1 0", "2"},
      {"factors 2", "1"}, {"factor 1", "1"}, {"power 1", "3"}, {"hold 5 0", "2"},
      {"reckon 5 2 0 0", "1"}, {"least 7", "4"}, {"number 7 4", "2"}, {"compare 0 7", "2"},
      {"feed 1 2 3 4 5", "40"}, {"out -1", "6"},
    };
    for (String[] call : last) {
      House h = Furnished.house();
      h.feed(call[0].startsWith("points") ? "-x;y" : call[0].startsWith("decide") ? "Exx=-1"
          : call[0].startsWith("solve") ? "x=-1" : "-x");
      while (h.x.left() > 1) {
        h.x.out(0);
      }
      House.due(call[0] + " as the call 512", Integer.parseInt(call[1]), h.call(call[0]));
    }
  }

  /** "An empty tape, an empty OUT, no roots, no points, no pieces." */
  private static void isEmptyWhenNew() {
    for (String[] reader : READERS) {
      House h = new House();
      House.due(reader[0] + " of 1, new", -1, h.call(reader[0] + " 1"));
      House.due("the tape, new", 0, h.tapeSize());
    }
    String[] nothing = {
      "out 0", "times 0", "root 0 0", "signAt 0 0", "below 0 0", "hold 0 0", "point 0 0 0",
      "point 0 1 0", "signAtPoint 0 0", "piece 0 0", "piece 0 4", "edge 0 0 0", "edge 0 1 0",
      "factor 0", "power 0", "least 0", "least 7", "number 0 0", "number 7 0", "compare 0 0",
      "compare 7 7", "reckon 0 0 0 0", "reckon 7 3 7 7",
    };
    House h = new House();
    House.due("the OUT, new", 0, h.call("out -1"));
    for (String call : nothing) {
      House.due(call + ", new", -1, h.call(call));
    }
    House.due("the OUT, still new", 0, h.call("out -1"));
  }

  /** "Twenty bytes come behind the tape ...: how many it has then". */
  private static void feedsTwentyBytes() {
    House h = new House();
    for (int i = 1; i <= 20; i++) {
      House.due("feed " + i, 20 * i, h.call("feed 0 0 0 0 0"));
    }
    House.due("feed 21", -1, h.call("feed 0 0 0 0 0"));
    House.due("feed 22", -1, h.call("feed 0 0 0 0 0"));
  }

  /** "of each number the highest first". */
  private static void feedsTheHighestFirst() {
    House h = new House();
    House.due("feed", 20, h.x.feed(0x78382d79, 0x372b3132, 0x33343536, 0x78357933, 0x2d393837));
    h.wrote("in its order", "x8+123456x5y3-y7-987", h.x.tell(0, 20));
    // all bits count, also the highest: the bytes 128 and 255 are none of a text's
    h.x.feed(0x78ff2b31, 0, 0, 0, 0);
    House.due("byte 255", -3, h.x.tell(0, 4));
    h.x.feed(0xf8000000, 0, 0, 0, 0);
    House.due("byte 248, x with its highest bit set", -2, h.x.tell(0, 1));
    h.x.feed(0x78000000, 0, 0, 0, 0x78);
    House.due("byte 0", -3, h.x.tell(0, 20));
    h.x.feed(0x312b312b, 0x312b312b, 0x312b312b, 0x312b312b, 0x312b312b);
    h.x.feed(0x79000000, 0, 0, 0, 0);
    h.wrote("behind what was there", "y+10", h.x.tell(0, 21));
  }

  /** "The tape has at most 400 bytes", "REFUSED when it would have more than 400". */
  private static void hasAtMost400() {
    for (String[] reader : READERS) {
      House h = Furnished.house();
      int n = h.feed(padded(reader[1], 400));
      House.due("feed when full", -1, h.x.feed(0x31313131, 0, 0, 0, 0));
      Furnished.stands("feed when full", h);
      House.due("feed when full", -1, h.x.feed(-1, -1, -1, -1, -1));
      House.due(reader[0] + " of 400 bytes", Integer.parseInt(reader[2]),
          h.call(reader[0] + " " + n));
      House.due("feed after " + reader[0], 20, h.call("feed 0 0 0 0 0"));
    }
    House h = new House();
    h.feed(padded("-x", 380));
    House.due("feed with 380", 400, h.x.feed(0x2b312b31, 0x2b312b31, 0x2b312b31, 0x2b312b31,
        0x2b312b31));
    h.wrote("a text of 400", "-x+10", h.x.tell(0, 400));
  }

  /** "n below 0 or above how many bytes there are", when they are 400. */
  private static void readsAllOf400() {
    refusesAll(400, 401);
    refusesAll(400, -1);
    String most = "111111" + "+x".repeat(196);
    House h = new House();
    h.feed(most + "+1");
    h.wrote("a text of 400", "196x+111112", h.x.tell(0, 400));
    h.feed(most + "+1");
    House.due("399 bytes of 400", -2 - 399, h.x.tell(0, 399));
    House.due("a fault at the last byte", -2 - 399, h.read("tell 0", most + "+?"));
    House.due("400 that end too early", -2 - 400, h.read("tell 0", most + "x+"));
  }

  /** "what READS n takes its first n bytes as a text". */
  private static void readsTheFirstBytes() {
    String[] told = {"x", "x2", null, "x2+1", "x2+13"};
    for (int n = 1; n <= told.length; n++) {
      House h = new House();
      h.feed("x2+13");
      if (told[n - 1] == null) {
        House.due("x2+13 to the +", -2 - n, h.x.tell(0, n));
      } else {
        h.wrote("the first bytes of x2+13", told[n - 1], h.x.tell(0, n));
      }
      House.due("the tape then", 0, h.tapeSize());
    }
    House h = new House();
    h.feed("Exx<=1");
    House.due("Exx< to the relation", -2 - 4, h.x.decide(4));
    h.feed("x8x0");
    House.due("x8x without its 0", -2 - 2, h.x.tell(0, 3));
  }

  /** "the tape is empty then, whatever comes of it". */
  private static void losesTheTape() {
    for (String[] reader : READERS) {
      Furnished.answers(reader[0], reader[1], Integer.parseInt(reader[2]));
      Furnished.answers(reader[0], padded(reader[1], 20), Integer.parseInt(reader[2]));
      Furnished.fault(reader[0], reader[1] + "?", reader[1].length());
      Furnished.fault(reader[0], padded(reader[1], 18) + "+?", 19);
    }
  }

  /** "REFUSED is -1, the call changes nothing: n below 0 or above how many bytes there are". */
  private static void refusesLengths() {
    refusesAll(20, -1);
    refusesAll(20, 21);
    refusesAll(20, Integer.MIN_VALUE);
    refusesAll(20, Integer.MAX_VALUE);
    for (String[] reader : READERS) {
      House.due(reader[0] + " of all that there is", Integer.parseInt(reader[2]),
          Furnished.house().read(reader[0], padded(reader[1], 20)));
    }
  }

  /** "its length when it ends too early": 0, when n is 0, also if there are bytes. */
  private static void readsNothing() {
    for (String[] reader : READERS) {
      Furnished.fault(reader[0], "", 0);
      House h = Furnished.house();
      h.feed(padded(reader[1], 20));
      House.due(reader[0] + " of 0 bytes", -2, h.call(reader[0] + " 0"));
      Furnished.stands(reader[0] + " of 0 bytes", h);
      House.due("the tape then", 0, h.tapeSize());
    }
  }

  /** "(its length when it ends too early)". */
  private static void tellsWhereItEndsTooEarly() {
    String[][] early = {
      {"tell 0", "-", "x+", "x-", "12-", "-x+x2y-"},
      {"tell 3", "-", "3y+"},
      {"tell 4", "x", "-", "x;", "x;-", "x;y+", "x+"},
      {"tell 8", "12", "y3;"},
      {"roots", "-", "x+", "x-1-"},
      {"signAt 0", "-", "x+"},
      {"below 0", "-", "x+"},
      {"points", "x", "x;", "x;y-"},
      {"signAtPoint 0", "-", "x+y-"},
      {"decide", "E", "A", "Ex", "Ay", "ExA", "ExEy", "Ex~", "Ex(", "Ex(~", "Exx", "Exx+", "Exx<",
        "Exx<=", "Exx#", "Exx=-", "Exx=1+", "Ex(x=1", "Ex(x=1&", "Ex(x=1|", "Ex((x=1)", "Ex-"},
      {"solve", "E", "A", "Ey", "Ay", "x", "x>", "x>=", "~", "(", "(x=1", "(x=1&", "(x=1|x=2", "-"},
      {"factors", "-", "x+"},
    };
    for (String[] row : early) {
      for (int i = 1; i < row.length; i++) {
        Furnished.fault(row[0], row[i], row[i].length());
      }
    }
  }

  /** "a FAULT comes ahead of what is refused on account of the text". */
  private static void findsFaultsAheadOfRefusals() {
    String[][] refused = {
      {"tell 5", "y5;x", "x;y5", "0;y5", "y5;0"},
      {"tell 6", "y;x", "x;y"},
      {"tell 7", "y;x", "x;y", "x6;x3"},
      {"roots", "0", "x-x"},
      {"below 0", "0", "x-x"},
      {"points", "x4;y", "x;y4", "201;x", "x;-201", "x;x", "0;0", "0;y", "y;0"},
      {"signAtPoint 0", "x4", "201", "-201y"},
      {"decide", "Exx4=1", "Ex201=0", "ExAyxy3<0", "Ex(x=1|x=2|x=3|x=4)"},
      {"solve", "x4=1", "201=0", "Eyxy3<0", "(x=1|x=2|x=3|x=4)"},
      {"factors", "0", "x-x"},
    };
    for (String[] row : refused) {
      for (int i = 1; i < row.length; i++) {
        Furnished.refused(row[0], row[i]);
        Furnished.fault(row[0], row[i] + "?", row[i].length());
      }
    }
    Furnished.fault("points", "x4;", 3);
    Furnished.fault("points", "x4", 2);
    Furnished.fault("tell 6", "y;", 2);
    Furnished.fault("decide", "Ex(x=1|x=2|x=3|x=4", 18);
    Furnished.fault("decide", "Ex(x4=1|y=0)", 8);
    Furnished.fault("solve", "(x4=1&x=)", 8);
  }

  /** What is refused on account of something else comes ahead of the text. */
  private static void refusesAheadOfFaults() {
    String[] calls = {
      "tell -1", "tell 9", "tell 2147483647", "tell -2147483648", "signAt -1", "signAt 3",
      "below -1", "below 3", "signAtPoint -1", "signAtPoint 4",
    };
    for (String call : calls) {
      Furnished.refused(call, "?");
      Furnished.refused(call, "");
      Furnished.refused(call, "x-x");
    }
    for (String[] reader : READERS) {
      Furnished.unread(reader[0] + " 21", "?");
      Furnished.unread(reader[0] + " -1", "?");
    }
  }

  /** A byte between two parts of a text is a fault, but for some, with which it goes on. */
  private static void takesOnly(String some, String call, String ahead, String behind) {
    for (int b = 0; b < 256; b++) {
      String text = ahead + (char) b + behind;
      boolean fault = new House().read(call, text) == -2 - ahead.length();
      House.due(call + " with byte " + b + " at " + ahead.length() + " of " + text,
          some.indexOf(b) < 0 ? 1 : 0, fault ? 1 : 0);
    }
  }

  /** "No byte stands in a text but as said". */
  private static void takesNoOtherBytes() {
    takesOnly("-0123456789xy", "tell 0", "", "x");
    takesOnly("+-0123456789xy", "tell 0", "x", "1");
    takesOnly("+-xy", "tell 0", "x1", "x");
    takesOnly("0123456789xy", "tell 0", "x+", "x");
    takesOnly("0123456789xy", "tell 0", "-", "x");
    takesOnly("+-xy", "tell 0", "123456", "x");
    takesOnly("+-0123456789x", "roots", "x", "1");
    takesOnly("-0123456789x", "factors", "", "x");
    takesOnly(";+-0123456789xy", "tell 4", "x", "x");
    takesOnly("-0123456789xy", "points", "x;", "x");
    takesOnly("+-0123456789xy", "points", "x;y", "");
  }

  /** The same, in sentences. */
  private static void takesNoOtherBytesInSentences() {
    takesOnly("EA", "decide", "", "xx=1");
    takesOnly("xy", "decide", "A", "x=1");
    takesOnly("y", "decide", "ExA", "x=1");
    takesOnly("EA~(-0123456789x", "decide", "Ex", "x=1");
    takesOnly("~(-0123456789xy", "decide", "ExAy", "x=1");
    takesOnly("<>=#+-0123456789x", "decide", "Exx", "1");
    takesOnly("=-0123456789x", "decide", "Exx<", "1");
    takesOnly("-0123456789x", "decide", "Exx<=", "1");
    takesOnly("-0123456789x", "decide", "Exx=", "1");
    takesOnly("-0123456789x", "decide", "Exx#", "1");
    takesOnly("&|)+-0123456789x", "decide", "Ex(x=1", "x=2)");
    takesOnly("~(-0123456789x", "decide", "Ex(x=1&", "x=2)");
    takesOnly("", "decide", "Ex(x=1)", "");
    takesOnly("EA~(-0123456789x", "solve", "", "x=1");
    takesOnly("y", "solve", "E", "x=1");
    takesOnly("~(-0123456789xy", "solve", "Ay", "x=1");
  }

  /** "no blanks". */
  private static void takesNoBlanks() {
    for (String blank : new String[] {" ", "\t", "\n", "\0"}) {
      Furnished.fault("tell 0", blank + "x", 0);
      Furnished.fault("tell 0", "x" + blank, 1);
      Furnished.fault("tell 0", "x" + blank + "+1", 1);
      Furnished.fault("tell 0", "x+" + blank + "1", 2);
      Furnished.fault("tell 0", "12" + blank + "x", 2);
      Furnished.fault("tell 4", "x;" + blank + "y", 2);
      Furnished.fault("decide", "E" + blank + "xx=1", 1);
      Furnished.fault("decide", "Ex" + blank + "x=1", 2);
      Furnished.fault("decide", "Exx" + blank + "=1", 3);
      Furnished.fault("decide", "Exx<" + blank + "=1", 4);
      Furnished.fault("solve", "(x=1" + blank + "|x=2)", 4);
      Furnished.fault("solve", "x=1" + blank, 3);
    }
  }

  /** "What is written comes to the OUT (its earlier bytes are gone)." */
  private static void losesWhatWasWritten() {
    String[][] writers = {
      {"root 0 0", "-2"},
      {"root 2 200", "2272553576084360916141657902949647315979581976043234410928602"},
      {"point 2 1 0", "2"},
      {"edge 1 0 200", "0"},
      {"factor 1", "x"},
      {"least 3", "x"},
      {"number 3 9", "0"},
      {"tell 0 2", "-x"},
    };
    for (String[] writer : writers) {
      House h = Furnished.house();
      h.tell(0, "123456x8-234567y8", "123456x8-234567y8");
      h.feed("-x");
      h.wrote(writer[0], writer[1], h.call(writer[0]));
      House.due("behind what " + writer[0] + " wrote", -1, h.x.out(writer[1].length()));
      House.due("where bytes were ahead of " + writer[0],
          writer[1].length() > 16 ? writer[1].charAt(16) : -1, h.x.out(16));
    }
  }

  /** "written in base 10, with - ahead below 0, without 0s ahead". */
  private static void writesInBaseTen() {
    Furnished.writes("tell 0", "-000000", "0");
    Furnished.writes("tell 0", "-000010", "-10");
    Furnished.writes("tell 0", "000100", "100");
    Furnished.writes("tell 0", "999999+1", "1000000");
    Furnished.writes("tell 0", "-999999-1", "-1000000");
    Furnished.writes("tell 4", "99999+1;10000", "1000000000");
    Furnished.writes("tell 4", "-99999-1;10000", "-1000000000");
    Furnished.writes("tell 4", "31623;31622", "999982506");
    Furnished.writes("tell 7", "x3;999999+1", "1000000000000000000");
    Furnished.writes("tell 7", "x3+7;999999+1", "1000000000000000007");
    Furnished.writes("tell 7", "x3-1;999999+1", "999999999999999999");
    Furnished.writes("tell 7", "x7;-999999-1", "-1" + "0".repeat(42));
    Furnished.writes("tell 7", "x8;-999999-1", "1" + "0".repeat(48));
    Furnished.writes("root 1 0", "-1");
    Furnished.writes("number 3 0", "0");
    Furnished.writes("number 3 200", "0");
  }

  /** "Byte i of the OUT; how many it has for i -1; otherwise -1." */
  private static void tellsBytesOfTheOut() {
    House h = Furnished.house();
    House.due("out(-1)", 6, h.x.out(-1));
    House.due("the first byte", '-', h.x.out(0));
    House.due("the last byte", '5', h.x.out(5));
    House.due("behind the last byte", -1, h.x.out(6));
    House.due("out(-2)", -1, h.x.out(-2));
    House.due("out(least)", -1, h.x.out(Integer.MIN_VALUE));
    House.due("out(greatest)", -1, h.x.out(Integer.MAX_VALUE));
    House.due("out(400)", -1, h.x.out(400));
    Furnished.stands("out", h);
  }
}
