// Each promise by itself: ordinary inputs, the edges that the document names, wrong inputs.
// The answers were worked out by hand from the document, not taken from the program.
public final class PromiseTests {
  private static final int NONE = -1000000, BAD = -1000001, STATE = -1000002, FULL = -1000003;
  private static final int LOW = Integer.MIN_VALUE, HIGH = Integer.MAX_VALUE;
  private static int wrong = 0;
  private static int asked = 0;
  private static int promise = 0;

  private static void due(String call, int got, int want) {
    asked++;
    if (got != want) {
      wrong++;
      System.out.println("promise " + promise + ": " + call + " answered " + got + ", due is " + want);
    }
  }

  private static int read(DotOutlines d, String tape) {
    for (int i = 0; i < tape.length(); i++) d.feed(tape.charAt(i));
    return d.picture();
  }

  private static DotOutlines of(String tape) {
    DotOutlines d = new DotOutlines();
    if (read(d, tape) < 0) { wrong++; System.out.println("promise " + promise + ": not read: " + tape); }
    return d;
  }

  private static String pictureOf(DotOutlines d, int width, int height) {
    StringBuilder text = new StringBuilder();
    for (int y = 0; y < height; y++) {
      for (int x = 0; x < width; x++) text.append(d.dot(x, y) == 1 ? 'x' : 'o');
      text.append(';');
    }
    return text.toString();
  }

  private static void dueText(String what, String got, String want) {
    asked++;
    if (!got.equals(want)) {
      wrong++;
      System.out.println("promise " + promise + ": " + what + " is " + got + ", due is " + want);
    }
  }

  // a slope, from run 2 of the shared test; a ring; two dots that meet at a corner; one dot
  private static final String SLOPE = "d83;xxxooooo;xxxxxxoo;xxxxxxxx;";
  private static final String RING = "d33;xxx;xox;xxx;";
  private static final String PAIR = "d22;xo;ox;";
  private static final String ONE = "d11;x;";
  // stairs of two dots a step: the longest straight stretch there can be goes along them
  private static final String STAIRS = "d85;xooooooo;xxxooooo;xxxxxooo;xxxxxxxo;xxxxxxxx;";
  // a square without its upper left dots: BEST goes (2,0) (8,0) (8,8) (0,8) (0,4)
  private static final String CUT = "d88;ooxxxxxx;oxxxxxxx;oxxxxxxx;" + "xxxxxxxx;".repeat(5);
  // a square that stands on its corner: its sides go up one dot a step
  private static final String DIAMOND = "d55;ooxoo;oxxxo;xxxxx;oxxxo;ooxoo;";

  private static void newObject() {
    promise = 1;
    DotOutlines d = new DotOutlines();
    for (int what = 0; what <= 5; what++) due("count(" + what + ")", d.count(what), 0);
    due("fault()", d.fault(), 0);
    due("borders()", d.borders(), STATE);
    due("dot(0, 0)", d.dot(0, 0), BAD);
    due("undo()", d.undo(), STATE);
    due("restore(0)", d.restore(0), STATE);
    due("restore(1)", d.restore(1), STATE);
    DotOutlines other = of(ONE);
    due("count(0) of another one", d.count(0), 0);
    due("count(0) of that one", other.count(0), 1);
  }

  private static void feed() {
    promise = 2;
    DotOutlines d = new DotOutlines();
    due("feed(-1)", d.feed(-1), BAD);
    due("feed(256)", d.feed(256), BAD);
    due("feed(low)", d.feed(LOW), BAD);
    due("feed(high)", d.feed(HIGH), BAD);
    due("feed(0)", d.feed(0), 1);
    due("feed(255)", d.feed(255), 2);
    for (int n = 3; n <= 90; n++) due("feed", d.feed('d'), n);
    due("feed, the 91st", d.feed('d'), FULL);
    due("feed(256), the 91st", d.feed(256), BAD);
    due("count(5)", d.count(5), 90);
    due("picture()", d.picture(), -1000100);
    due("count(5)", d.count(5), 0);
    due("feed behind picture()", d.feed('d'), 1);
  }

  private static void picture() {
    promise = 3;
    DotOutlines d = new DotOutlines();
    due("picture", read(d, "d32;xox;oxo;"), 3);
    dueText("the picture", pictureOf(d, 3, 2), "xox;oxo;");
    due("count(5)", d.count(5), 0);
    due("count(2)", d.count(2), 0);
    due("count(3)", d.count(3), 8);
    due("the largest", read(d, "d88;" + "xxxxxxxx;".repeat(8)), 64);
    due("the smallest, light", read(d, "d11;o;"), 0);
    due("wide", read(d, "d81;xoxoxoxo;"), 4);
    due("high", read(d, "d18;x;o;x;o;x;o;x;x;"), 5);
    due("dot(0, 7)", d.dot(0, 7), 1);
    due("dot(1, 0)", d.dot(1, 0), BAD);

    read(d, "d22;xx;xo;");
    d.image(0);
    d.joined(1);
    d.sharp(3);
    d.flip(0, 0);
    due("with a fault", read(d, "d22;xx;xx"), -1000109);
    due("then dots", d.count(1), 2);
    due("then JOINED", d.count(2), 1);
    due("then SHARP", d.count(3), 3);
    due("then ACTS", d.count(4), 3);
    due("then the tape", d.count(5), 0);
    due("read anew", read(d, "d31;xxx;"), 3);
    due("then JOINED", d.count(2), 0);
    due("then SHARP", d.count(3), 8);
    due("then ACTS", d.count(4), 0);
    due("then undo()", d.undo(), STATE);
    due("the IMAGE stays", d.restore(0), 1);
    dueText("its picture", pictureOf(d, 2, 2), "xx;xo;");

    faultAt(0, 1, "");
    faultAt(0, 1, "D11;x;");
    faultAt(0, 1, "1");
    faultAt(0, 1, ";");
    faultAt(0, 1, " d11;x;");
    faultAt(1, 1, "d");
    faultAt(1, 1, "d;");
    faultAt(1, 1, "dx");
    faultAt(1, 1, "d ");
    faultAt(1, 2, "d0");
    faultAt(1, 2, "d9");
    faultAt(2, 1, "d8");
    faultAt(2, 1, "d8;");
    faultAt(2, 2, "d80");
    faultAt(2, 2, "d89;");
    faultAt(3, 1, "d88");
    faultAt(3, 1, "d888");
    faultAt(3, 1, "d11x");
    faultAt(4, 1, "d11;");
    faultAt(4, 1, "d11;1;");
    faultAt(4, 1, "d11;;");
    faultAt(4, 1, "d11;X;");
    faultAt(4, 2, "d11;y;");
    faultAt(4, 2, "d11;a;");
    faultAt(4, 2, "d11;z;");
    faultAt(4, 1, "d11;`;");
    faultAt(4, 1, "d11;{;");
    faultAt(4, 1, "d11;" + (char) 248 + ";");
    faultAt(5, 1, "d11;x");
    faultAt(5, 1, "d11;xx");
    faultAt(5, 1, "d11;xy");
    faultAt(6, 1, "d11;x; ");
    faultAt(6, 1, "d11;x;d11;x;");
    faultAt(6, 1, "d11;x;x;");
    faultAt(75, 1, "d88;" + "xoxoxoxo;".repeat(7) + "xoxoxoxo");
    faultAt(76, 1, "d88;" + "xoxoxoxo;".repeat(8) + ";");
    faultAt(5, 2, "d22;xq;9;");
  }

  private static void faultAt(int place, int number, String tape) {
    DotOutlines d = new DotOutlines();
    due("reading '" + tape + "'", read(d, tape), -1000100 - place);
    due("fault() of '" + tape + "'", d.fault(), number);
    due("borders() behind '" + tape + "'", d.borders(), STATE);
  }

  private static void fault() {
    promise = 4;
    DotOutlines d = new DotOutlines();
    due("fault() at first", d.fault(), 0);
    read(d, ONE);
    due("fault() behind a picture", d.fault(), 0);
    read(d, "d11;y;");
    due("fault() of a row", d.fault(), 2);
    read(d, ONE);
    due("fault() behind a picture", d.fault(), 2);
    d.feed('d');
    due("fault() behind a byte", d.fault(), 2);
    d.picture();
    due("fault() of the end", d.fault(), 1);
    d.image(0);
    d.restore(0);
    due("fault() behind an image", d.fault(), 1);
  }

  private static void undo() {
    promise = 5;
    DotOutlines d = of("d22;xo;oo;");
    due("undo()", d.undo(), STATE);
    d.flip(1, 1);
    d.frame(0, 0, 1, 0, 2);
    d.joined(1);
    d.sharp(20);
    d.sharp(20);
    d.joined(1);
    d.frame(0, 0, 0, 0, 0);
    due("ACTS, those without effect too", d.count(4), 7);
    due("undo() of a frame", d.undo(), 6);
    due("undo() of JOINED", d.undo(), 5);
    due("JOINED", d.count(2), 1);
    due("undo() of SHARP", d.undo(), 4);
    due("SHARP", d.count(3), 20);
    due("undo() of SHARP", d.undo(), 3);
    due("SHARP", d.count(3), 8);
    due("undo() of JOINED", d.undo(), 2);
    due("JOINED", d.count(2), 0);
    dueText("dots", pictureOf(d, 2, 2), "ox;ox;");
    due("undo() of a frame", d.undo(), 1);
    dueText("dots", pictureOf(d, 2, 2), "xo;ox;");
    due("undo() of a dot", d.undo(), 0);
    dueText("dots", pictureOf(d, 2, 2), "xo;oo;");
    due("undo()", d.undo(), STATE);
    for (int n = 1; n <= 10; n++) d.sharp(n);
    due("ACTS of ten", d.count(4), 8);
    for (int n = 7; n >= 0; n--) due("undo() of ten", d.undo(), n);
    due("undo() of ten, the ninth", d.undo(), STATE);
    due("SHARP, the oldest two stay", d.count(3), 2);
    d.flip(0, 0);
    d.flip(9, 9);
    d.frame(1, 1, 0, 0, 0);
    d.joined(2);
    d.sharp(0);
    due("ACTS, none of those refused", d.count(4), 1);
    due("undo()", d.undo(), 0);
    due("borders() then", d.borders(), 1);
  }

  private static void flip() {
    promise = 6;
    DotOutlines d = new DotOutlines();
    due("flip(0, 0)", d.flip(0, 0), BAD);
    read(d, "d32;ooo;oox;");
    due("flip(0, 0)", d.flip(0, 0), 1);
    due("flip(2, 1)", d.flip(2, 1), 0);
    due("flip(2, 1)", d.flip(2, 1), 1);
    dueText("dots", pictureOf(d, 3, 2), "xoo;oox;");
    due("flip(3, 0)", d.flip(3, 0), BAD);
    due("flip(0, 2)", d.flip(0, 2), BAD);
    due("flip(-1, 0)", d.flip(-1, 0), BAD);
    due("flip(0, -1)", d.flip(0, -1), BAD);
    due("flip(low, high)", d.flip(LOW, HIGH), BAD);
    due("ACTS", d.count(4), 3);
  }

  private static void frame() {
    promise = 7;
    DotOutlines d = new DotOutlines();
    due("frame without a picture", d.frame(0, 0, 0, 0, 1), BAD);
    read(d, "d43;xooo;oooo;ooox;");
    due("frame dark", d.frame(1, 0, 2, 1, 1), 6);
    dueText("dots", pictureOf(d, 4, 3), "xxxo;oxxo;ooox;");
    due("frame turned", d.frame(0, 0, 3, 0, 2), 4);
    dueText("dots", pictureOf(d, 4, 3), "ooox;oxxo;ooox;");
    due("frame light", d.frame(2, 1, 3, 2, 0), 2);
    dueText("dots", pictureOf(d, 4, 3), "ooox;oxoo;oooo;");
    due("one dot", d.frame(3, 2, 3, 2, 2), 3);
    due("all", d.frame(0, 0, 3, 2, 1), 12);
    due("x2 < x", d.frame(2, 0, 1, 0, 1), BAD);
    due("y2 < y", d.frame(0, 2, 0, 1, 1), BAD);
    due("x2 too great", d.frame(0, 0, 4, 0, 1), BAD);
    due("y2 too great", d.frame(0, 0, 0, 3, 1), BAD);
    due("x below 0", d.frame(-1, 0, 0, 0, 1), BAD);
    due("y below 0", d.frame(0, -1, 0, 0, 1), BAD);
    due("v below 0", d.frame(0, 0, 0, 0, -1), BAD);
    due("v of 3", d.frame(0, 0, 0, 0, 3), BAD);
    due("ACTS", d.count(4), 5);
    due("DARK", d.count(1), 12);
    read(d, "d88;" + "oooooooo;".repeat(8));
    due("the largest", d.frame(0, 0, 7, 7, 2), 64);
    due("its last column, last row", d.frame(7, 7, 7, 7, 0), 63);
    due("dot(7, 7)", d.dot(7, 7), 0);
  }

  private static void joined() {
    promise = 8;
    DotOutlines d = new DotOutlines();
    due("joined(0) without a picture", d.joined(0), STATE);
    due("joined(2) without a picture", d.joined(2), STATE);
    read(d, PAIR);
    due("joined(-1)", d.joined(-1), BAD);
    due("joined(2)", d.joined(2), BAD);
    due("ACTS", d.count(4), 0);
    due("borders()", d.borders(), 2);
    due("joined(1)", d.joined(1), 0);
    due("borders()", d.borders(), 1);
    due("joined(1)", d.joined(1), 1);
    due("joined(0)", d.joined(0), 1);
    due("borders()", d.borders(), 2);
    due("ACTS", d.count(4), 3);
  }

  private static void sharp() {
    promise = 9;
    DotOutlines d = new DotOutlines();
    due("sharp(8) without a picture", d.sharp(8), STATE);
    due("sharp(0) without a picture", d.sharp(0), STATE);
    read(d, SLOPE);
    due("sharp(0)", d.sharp(0), BAD);
    due("sharp(33)", d.sharp(33), BAD);
    due("sharp(low)", d.sharp(LOW), BAD);
    due("ACTS", d.count(4), 0);
    due("sharp(32)", d.sharp(32), 8);
    due("sharp(1)", d.sharp(1), 32);
    due("sharp(1)", d.sharp(1), 1);
    due("SHARP", d.count(3), 1);
    due("ACTS", d.count(4), 3);
  }

  private static void dot() {
    promise = 10;
    DotOutlines d = new DotOutlines();
    due("dot without a picture", d.dot(0, 0), BAD);
    read(d, "d23;xo;ox;xx;");
    dueText("dots", pictureOf(d, 2, 3), "xo;ox;xx;");
    due("dot(2, 0)", d.dot(2, 0), BAD);
    due("dot(0, 3)", d.dot(0, 3), BAD);
    due("dot(-1, 0)", d.dot(-1, 0), BAD);
    due("dot(0, -1)", d.dot(0, -1), BAD);
    due("dot(high, high)", d.dot(HIGH, HIGH), BAD);
  }

  private static void borders() {
    promise = 11;
    DotOutlines d = new DotOutlines();
    due("borders() without a picture", d.borders(), STATE);
    due("light", of("d33;ooo;ooo;ooo;").borders(), 0);
    due("one", of(ONE).borders(), 1);
    due("a ring", of(RING).borders(), 2);
    due("a dot in a ring", of("d55;xxxxx;xooox;xoxox;xooox;xxxxx;").borders(), 3);
    due("dots apart", of("d31;xox;").borders(), 2);
    // four dots about a light one meet at its corners; so do the light ones about a dark one
    DotOutlines plus = of("d33;oxo;xox;oxo;");
    due("parted", plus.borders(), 4);
    plus.joined(1);
    due("joined: outer and inner", plus.borders(), 2);
    DotOutlines hole = of("d55;xxxxx;xxoxx;xoxox;xxoxx;xxxxx;");
    due("light ones parted", hole.borders(), 5);
    hole.joined(1);
    due("light ones joined, a dot inside", hole.borders(), 3);
  }

  private static void border() {
    promise = 12;
    DotOutlines d = new DotOutlines();
    due("border without a picture", d.border(0, 0), BAD);
    d = of("d44;oooo;oxxx;oxox;oxxx;");
    dueRow("outer", d, 0, 12, 1, 9, 1, 1, 4);
    dueRow("inner", d, 1, 4, 0, 1, 2, 2, 4);
    due("border(2, 0)", d.border(2, 0), BAD);
    due("border(-1, 0)", d.border(-1, 0), BAD);
    due("border(0, -1)", d.border(0, -1), BAD);
    due("border(0, 6)", d.border(0, 6), BAD);
    due("border(high, 0)", d.border(HIGH, 0), BAD);
    DotOutlines pair = of(PAIR);
    dueRow("parted, the first", pair, 0, 4, 1, 1, 0, 0, 4);
    dueRow("parted, the second", pair, 1, 4, 1, 1, 1, 1, 4);
    pair.joined(1);
    dueRow("joined", pair, 0, 8, 1, 2, 0, 0, 8);
    // the first dot is not the upper left one of the box about it
    dueRow("diamond", of(DIAMOND), 0, 20, 1, 13, 2, 0, 20);
    dueRow("slope", of(SLOPE), 0, 22, 1, 17, 0, 0, 8);
    dueRow("a dot in a ring", of("d55;xxxxx;xooox;xoxox;xooox;xxxxx;"), 2, 4, 1, 1, 2, 2, 4);
  }

  private static void dueRow(String what, DotOutlines d, int border, int... row) {
    for (int n = 0; n < row.length; n++) due(what + ": border(" + border + ", " + n + ")", d.border(border, n), row[n]);
  }

  private static void corner() {
    promise = 13;
    DotOutlines d = new DotOutlines();
    due("corner without a picture", d.corner(0, 0, 0), BAD);
    d = of("d22;xx;xo;");
    int[][] round = {{0, 0, 0}, {1, 0, 0}, {2, 0, 1}, {2, 1, 2}, {1, 1, 1}, {1, 2, 2}, {0, 2, 3}, {0, 1, 3}};
    for (int k = 0; k < 24; k++)
      for (int what = 0; what < 3; what++) due("corner(0, " + k + ", " + what + ")", d.corner(0, k, what), round[k % 8][what]);
    due("corner(0, high, 0)", d.corner(0, HIGH, 0), round[HIGH % 8][0]);
    due("corner(0, high, 2)", d.corner(0, HIGH, 2), round[HIGH % 8][2]);
    due("corner(0, -1, 0)", d.corner(0, -1, 0), BAD);
    due("corner(0, low, 0)", d.corner(0, LOW, 0), BAD);
    due("corner(0, 0, 3)", d.corner(0, 0, 3), BAD);
    due("corner(0, 0, -1)", d.corner(0, 0, -1), BAD);
    due("corner(1, 0, 0)", d.corner(1, 0, 0), BAD);
    due("corner(-1, 0, 0)", d.corner(-1, 0, 0), BAD);
    // the other diagonal: parted, the walk of the upper dot comes down on its own
    DotOutlines other = of("d22;ox;xo;");
    due("parted", other.border(0, 0), 4);
    other.joined(1);
    int[][] joined = {{1, 0, 0}, {2, 0, 1}, {2, 1, 2}, {1, 1, 1}, {1, 2, 2}, {0, 2, 3}, {0, 1, 0}, {1, 1, 3}};
    for (int k = 0; k < 8; k++)
      for (int what = 0; what < 3; what++) due("joined: corner(0, " + k + ", " + what + ")", other.corner(0, k, what), joined[k][what]);
  }

  private static void inside() {
    promise = 14;
    DotOutlines d = new DotOutlines();
    due("inside without a picture", d.inside(0, 0, 0), BAD);
    d = of("d44;xxxo;xoxo;xxxo;ooox;");
    dueInside("outer", d, 0, "xxxo;xxxo;xxxo;oooo;");
    dueInside("inner", d, 1, "oooo;oxoo;oooo;oooo;");
    dueInside("apart", d, 2, "oooo;oooo;oooo;ooox;");
    d.joined(1);
    dueInside("joined", d, 0, "xxxo;xxxo;xxxo;ooox;");
    due("inside(0, 4, 0)", d.inside(0, 4, 0), BAD);
    due("inside(0, 0, 4)", d.inside(0, 0, 4), BAD);
    due("inside(0, -1, 0)", d.inside(0, -1, 0), BAD);
    due("inside(2, 0, 0)", d.inside(2, 0, 0), BAD);
    due("inside(-1, 0, 0)", d.inside(-1, 0, 0), BAD);
    dueInside("the whole", of("d88;" + "xxxxxxxx;".repeat(8)), 0, "xxxxxxxx;".repeat(8));
  }

  private static void dueInside(String what, DotOutlines d, int border, String rows) {
    int y = 0;
    for (String row : rows.split(";")) {
      for (int x = 0; x < row.length(); x++)
        due(what + ": inside(" + border + ", " + x + ", " + y + ")", d.inside(border, x, y), row.charAt(x) == 'x' ? 1 : 0);
      y++;
    }
  }

  private static void straight() {
    promise = 15;
    DotOutlines d = new DotOutlines();
    due("straight without a picture", d.straight(0, 0, 1), BAD);
    d = of(SLOPE);
    // (0,0) to (4,1) by (3,0), (3,1): both are 1 of 4 off ... C is 3 and 1, twice 3 is more than 4
    due("5 steps from 0", d.straight(0, 0, 5), 0);
    // (0,0) to (6,1), the corners (1,0) (2,0) (3,0) (3,1) (4,1) (5,1): C = 1 2 3 3 2 1, twice 3 is 6
    due("7 steps from 0", d.straight(0, 0, 7), 1);
    due("3 steps from 0", d.straight(0, 0, 3), 1);
    due("4 steps from 0", d.straight(0, 0, 4), 0);
    due("1 step, round the end", d.straight(0, 21, 1), 1);
    due("2 steps, round the end", d.straight(0, 21, 2), 0);
    due("all but one", d.straight(0, 0, 21), 0);
    due("3 steps south to north of an edge", d.straight(0, 19, 3), 1);
    due("s of LONG", d.straight(0, 0, 22), BAD);
    due("s of 0", d.straight(0, 0, 0), BAD);
    due("i of LONG", d.straight(0, 22, 1), BAD);
    due("i below 0", d.straight(0, -1, 1), BAD);
    due("s high", d.straight(0, 1, HIGH), BAD);
    due("no border", d.straight(1, 0, 1), BAD);
    DotOutlines pair = of(PAIR);
    pair.joined(1);
    // corner 2 and corner 6 are the same place
    due("ends where it begins", pair.straight(0, 2, 4), 0);
    // a step of the diamond: (2,0) (3,0) (3,1), C is 1, M is 1
    due("one dot aslant", of(DIAMOND).straight(0, 0, 2), 0);
    due("(3,0) (3,1) (4,1) (4,2)", of(DIAMOND).straight(0, 1, 3), 1);
  }

  private static void off() {
    promise = 16;
    DotOutlines d = new DotOutlines();
    due("off without a picture", d.off(0, 0, 1), BAD);
    d = of(SLOPE);
    due("7 steps from 0", d.off(0, 0, 7), 1 + 4 + 9 + 9 + 4 + 1);
    due("3 steps from 0", d.off(0, 0, 3), 0);
    due("4 steps from 0", d.off(0, 0, 4), NONE);
    // (2,0) (3,0) (3,1) (4,1): C is 1 and 1
    due("3 steps from 2", d.off(0, 2, 3), 2);
    // every corner beside the line is off by half a dot: C is 4, eight times
    due("the stairs", of(STAIRS).off(0, 0, 12), 8 * 16);
    due("s of LONG", d.off(0, 0, 22), BAD);
    due("s of 0", d.off(0, 0, 0), BAD);
    due("i of LONG", d.off(0, 22, 1), BAD);
    due("i below 0", d.off(0, -1, 1), BAD);
    due("no border", d.off(1, 0, 1), BAD);
    DotOutlines pair = of(PAIR);
    pair.joined(1);
    due("ends where it begins", pair.off(0, 2, 4), NONE);
  }

  private static void longest() {
    promise = 17;
    DotOutlines d = new DotOutlines();
    due("longest without a picture", d.longest(0, 0), BAD);
    d = of(SLOPE);
    int[] want = {7, 5, 3, 1, 3, 5, 3, 1};
    for (int i = 0; i < want.length; i++) due("longest(0, " + i + ")", d.longest(0, i), want[i]);
    due("the lower edge", d.longest(0, 11), 8);
    due("the left edge", d.longest(0, 19), 3);
    due("the stairs", of(STAIRS).longest(0, 0), 12);
    due("i of LONG", d.longest(0, 22), BAD);
    due("i below 0", d.longest(0, -1), BAD);
    due("no border", d.longest(1, 0), BAD);
    for (int i = 0; i < 4; i++) due("one dot", of(ONE).longest(0, i), 1);
  }

  private static void best() {
    promise = 18;
    DotOutlines d = new DotOutlines();
    due("best without a picture", d.best(0, 0), BAD);
    dueBest("one dot", of(ONE), 0, 4, 0, 4, 2);
    dueBest("slope", of(SLOPE), 0, 6, 12, 3, 34);
    dueBest("the whole", of("d88;" + "xxxxxxxx;".repeat(8)), 0, 4, 0, 4, 128);
    dueBest("a hole", of(RING), 1, 4, 0, 4, 2);
    dueBest("an L", of("d44;xooo;xooo;xooo;xxxx;"), 0, 6, 0, 6, 14);
    d = of(SLOPE);
    d.sharp(1);
    dueBest("slope, SHARP 1", d, 0, 6, 12, 6, 34);
    d.sharp(32);
    // two of them lie no further on, at right angles: (0,0) and (0,3); (8,3) turns back: 0 or less
    dueBest("slope, SHARP 32", d, 0, 6, 12, 3, 34);
    due("best(0, 4)", d.best(0, 4), BAD);
    due("best(0, -1)", d.best(0, -1), BAD);
    due("best(1, 0)", d.best(1, 0), BAD);
    due("best(-1, 0)", d.best(-1, 0), BAD);
  }

  private static void dueBest(String what, DotOutlines d, int border, int... row) {
    for (int n = 0; n < row.length; n++) due(what + ": best(" + border + ", " + n + ")", d.best(border, n), row[n]);
  }

  private static void vertex() {
    promise = 19;
    DotOutlines d = new DotOutlines();
    due("vertex without a picture", d.vertex(0, 0, 0), BAD);
    d = of(SLOPE);
    int[][] want = {{0, 9, 1}, {2, 4, 0}, {5, 2, 0}, {10, 6, 0}, {11, 7, 1}, {19, 17, 1}};
    for (int k = 0; k < 6; k++)
      for (int what = 0; what < 3; what++) due("vertex(0, " + k + ", " + what + ")", d.vertex(0, k, what), want[k][what]);
    d.sharp(4);
    due("TURN of SHARP", d.vertex(0, 1, 2), 1);
    d.sharp(5);
    due("TURN below SHARP", d.vertex(0, 1, 2), 0);
    due("TURN stays", d.vertex(0, 1, 1), 4);
    due("k of as many", d.vertex(0, 6, 0), BAD);
    due("k below 0", d.vertex(0, -1, 0), BAD);
    due("k high", d.vertex(0, HIGH, 0), BAD);
    due("what of 3", d.vertex(0, 0, 3), BAD);
    due("what below 0", d.vertex(0, 0, -1), BAD);
    due("no border", d.vertex(1, 0, 0), BAD);
    // TURN of one dot is 8 * 1 / 2 = 4, less than 8, but it lies no further on
    due("one dot, TURN", of(ONE).vertex(0, 3, 1), 4);
    due("one dot, SHARP", of(ONE).vertex(0, 3, 2), 1);
  }

  private static void past() {
    promise = 20;
    DotOutlines d = new DotOutlines();
    due("past without a picture", d.past(0, 0), BAD);
    d = of("d31;xxx;");
    int[] want = {4, 5, 5, 4, 4, 5, 5, 4};
    for (int i = 0; i < 8; i++) due("past(0, " + i + ")", d.past(0, i), want[i]);
    due("past(0, 8)", d.past(0, 8), BAD);
    due("past(0, -1)", d.past(0, -1), BAD);
    due("past(1, 0)", d.past(1, 0), BAD);
    d = of(SLOPE);
    due("slope, past(0, 0)", d.past(0, 0), 6);
    due("slope, past(0, 4)", d.past(0, 4), 7);
    due("slope, past(0, 21)", d.past(0, 21), 7);
  }

  private static void point() {
    promise = 21;
    DotOutlines d = new DotOutlines();
    due("point without a picture", d.point(0, 0, 1, 0), BAD);
    d = of(SLOPE);
    int[][] want = {{48, 1}, {64, 4}, {80, 9}};
    for (int i = 1; i <= 3; i++)
      for (int what = 0; what < 2; what++) due("point(0, 1, " + i + ", " + what + ")", d.point(0, 1, i, what), want[i - 1][what]);
    due("a sharp one", d.point(0, 0, 1, 0), NONE);
    due("a sharp one, i of 4", d.point(0, 0, 4, 0), BAD);
    due("a sharp one, what of 2", d.point(0, 0, 1, 2), BAD);
    due("i of 0", d.point(0, 1, 0, 0), BAD);
    due("i of 4", d.point(0, 1, 4, 0), BAD);
    due("what of 2", d.point(0, 1, 1, 2), BAD);
    due("what below 0", d.point(0, 1, 1, -1), BAD);
    due("k of as many", d.point(0, 6, 1, 0), BAD);
    due("k below 0", d.point(0, -1, 1, 0), BAD);
    due("no border", d.point(1, 0, 1, 0), BAD);
    d.sharp(4);
    due("sharp then", d.point(0, 1, 1, 0), NONE);
  }

  private static void filled() {
    promise = 22;
    DotOutlines d = new DotOutlines();
    due("filled without a picture", d.filled(0, 0, 0, 0), BAD);
    d = of(PAIR);
    d.joined(1);
    // BEST is (0,0) (1,0) (2,2) (1,2): at y = 1/2 from x = 1/4 to 5/4, at 3/2 from 3/4 to 7/4
    String[] rows = {"xo", "ox"};
    for (int kind = 0; kind < 2; kind++)
      for (int y = 0; y < 2; y++)
        for (int x = 0; x < 2; x++)
          due("filled(0, " + kind + ", " + x + ", " + y + ")", d.filled(0, kind, x, y), rows[y].charAt(x) == 'x' ? 1 : 0);
    // rounded at (2,0), the second point of three is the centre of dot 2, 0: no side is at less x
    DotOutlines cut = of(CUT);
    due("cut, BEST", cut.filled(0, 0, 2, 0), 1);
    due("cut, sharp yet", cut.filled(0, 1, 2, 0), 1);
    cut.sharp(32);
    due("cut, 32 times x", cut.point(0, 0, 2, 0), 80);
    due("cut, 32 times y", cut.point(0, 0, 2, 1), 16);
    due("cut, BEST still", cut.filled(0, 0, 2, 0), 1);
    due("cut, rounded", cut.filled(0, 1, 2, 0), 0);
    due("cut, the next one", cut.filled(0, 1, 3, 0), 1);
    due("kind of 2", d.filled(0, 2, 0, 0), BAD);
    due("kind below 0", d.filled(0, -1, 0, 0), BAD);
    due("x of W", d.filled(0, 0, 2, 0), BAD);
    due("y of H", d.filled(0, 0, 0, 2), BAD);
    due("x below 0", d.filled(0, 0, -1, 0), BAD);
    due("no border", d.filled(1, 0, 0, 0), BAD);
  }

  private static void differ() {
    promise = 23;
    DotOutlines d = new DotOutlines();
    due("differ without a picture", d.differ(0, 0), BAD);
    d = of(SLOPE);
    due("differ(0, 0)", d.differ(0, 0), 0);
    due("differ(0, 1)", d.differ(0, 1), 0);
    DotOutlines cut = of(CUT);
    due("cut, sharp yet", cut.differ(0, 1), 0);
    cut.sharp(32);
    due("cut, BEST", cut.differ(0, 0), 0);
    due("cut, rounded", cut.differ(0, 1), 1);
    due("kind of 2", d.differ(0, 2), BAD);
    due("kind below 0", d.differ(0, -1), BAD);
    due("no border", d.differ(1, 0), BAD);
    due("border below 0", d.differ(-1, 0), BAD);
  }

  private static void wrongDots() {
    promise = 24;
    DotOutlines d = new DotOutlines();
    due("wrong without a picture", d.wrong(0), STATE);
    due("wrong(2) without a picture", d.wrong(2), STATE);
    d = of(RING);
    due("wrong(0)", d.wrong(0), 0);
    due("wrong(1)", d.wrong(1), 0);
    DotOutlines cut = of(CUT);
    cut.sharp(32);
    due("cut, BEST", cut.wrong(0), 0);
    due("cut, rounded", cut.wrong(1), 1);
    // a hole does not change what is wrong elsewhere, and its own border puts its dot right
    cut.flip(5, 5);
    due("cut with a hole", cut.wrong(1), 1);
    due("wrong(2)", d.wrong(2), BAD);
    due("wrong(-1)", d.wrong(-1), BAD);
    due("light", of("d22;oo;oo;").wrong(1), 0);
  }

  private static void all() {
    promise = 25;
    DotOutlines d = new DotOutlines();
    due("all without a picture", d.all(0), STATE);
    due("all(3) without a picture", d.all(3), STATE);
    d = of("d55;xxxxx;xooox;xoxox;xooox;xxxxx;");
    due("all(0)", d.all(0), 20 + 12 + 4);
    due("all(1)", d.all(1), 12);
    due("all(2)", d.all(2), 12);
    due("all(3)", d.all(3), BAD);
    due("all(-1)", d.all(-1), BAD);
    DotOutlines slope = of(SLOPE);
    due("slope, all(1)", slope.all(1), 6);
    due("slope, all(2)", slope.all(2), 3);
    slope.sharp(1);
    due("slope, SHARP 1, all(2)", slope.all(2), 6);
    due("light", of("d22;oo;oo;").all(0), 0);
  }

  private static void image() {
    promise = 26;
    DotOutlines d = new DotOutlines();
    due("image(0) without a picture", d.image(0), STATE);
    due("image(2) without a picture", d.image(2), BAD);
    due("image(-1) without a picture", d.image(-1), BAD);
    read(d, "d21;xo;");
    d.flip(1, 0);
    due("image(0)", d.image(0), 1);
    due("ACTS stay", d.count(4), 1);
    due("image(2)", d.image(2), BAD);
    due("image(high)", d.image(HIGH), BAD);
    d.flip(0, 0);
    due("image(1)", d.image(1), 1);
    d.restore(0);
    dueText("image 0", pictureOf(d, 2, 1), "xx;");
    d.restore(1);
    dueText("image 1", pictureOf(d, 2, 1), "ox;");
    due("image(0) anew", d.image(0), 1);
    d.flip(0, 0);
    d.restore(0);
    dueText("image 0 anew", pictureOf(d, 2, 1), "ox;");
  }

  private static void restore() {
    promise = 27;
    DotOutlines d = new DotOutlines();
    due("restore(0), none kept", d.restore(0), STATE);
    due("restore(2)", d.restore(2), BAD);
    due("restore(-1)", d.restore(-1), BAD);
    read(d, "d22;xo;ox;");
    d.joined(1);
    d.sharp(30);
    d.image(1);
    read(d, "d31;xxx;");
    d.flip(0, 0);
    d.feed('d');
    due("restore(0), the other one kept", d.restore(0), STATE);
    due("ACTS stay", d.count(4), 1);
    due("restore(1)", d.restore(1), 1);
    due("DOTS", d.count(0), 4);
    dueText("dots", pictureOf(d, 2, 2), "xo;ox;");
    due("JOINED", d.count(2), 1);
    due("SHARP", d.count(3), 30);
    due("ACTS", d.count(4), 0);
    due("undo()", d.undo(), STATE);
    due("the tape stays", d.count(5), 1);
    due("borders()", d.borders(), 1);
    d.frame(0, 0, 1, 1, 0);
    due("restore(1) again", d.restore(1), 1);
    due("DARK", d.count(1), 2);
  }

  private static void count() {
    promise = 28;
    DotOutlines d = new DotOutlines();
    due("count(-1)", d.count(-1), BAD);
    due("count(6)", d.count(6), BAD);
    d.feed('d');
    due("count(5) without a picture", d.count(5), 1);
    due("count(3) without a picture", d.count(3), 0);
    d.picture();
    due("count(0) behind a fault", d.count(0), 0);
    read(d, "d53;xoxox;ooooo;xxxxx;");
    d.feed('d');
    d.feed('d');
    d.joined(1);
    d.sharp(9);
    int[] want = {15, 8, 1, 9, 2, 2};
    for (int what = 0; what < 6; what++) due("count(" + what + ")", d.count(what), want[what]);
    due("count(6)", d.count(6), BAD);
  }

  public static void main(String[] args) {
    newObject(); feed(); picture(); fault(); undo(); flip(); frame(); joined(); sharp(); dot(); borders(); border();
    corner(); inside(); straight(); off(); longest(); best(); vertex(); past(); point(); filled(); differ(); wrongDots();
    all(); image(); restore(); count();
    System.out.println(wrong == 0 ? asked + " answers are as due" : wrong + " of " + asked + " answers are not as due");
    if (wrong != 0) System.exit(1);
  }
}
