import java.io.IOException;
import java.nio.file.Files;
import java.nio.file.Path;
import java.util.ArrayList;
import java.util.List;
import java.util.function.Supplier;
import java.util.function.ToIntBiFunction;
import java.util.function.ToIntFunction;

// The document's sentences one by one, each with a test of its own: the value that is just allowed, the one just
// beyond it on either side, the empty and the full, the call that is refused, and that a refused call changes
// nothing. says() quotes the sentence that the answers below it are about; at the end the quotes are held against
// ../shared/DOC.md: each stands there, and none of the words under 'Terms' and the promises goes unquoted.
// The answers for the small pictures were worked out by hand; some for the greater ones were read off the program and
// found to be those of the model in ModelTests, too. No object is used for more than 512 calls.
public final class EdgeTests {
  private static final int NONE = -1000000, BAD = -1000001, STATE = -1000002, FULL = -1000003;
  private static final int LOW = Integer.MIN_VALUE, HIGH = Integer.MAX_VALUE;
  private static final int USE = -1, TERMS = 0;
  private static int wrong = 0;
  private static int asked = 0;

  // ---- sentences

  private record Quote(int where, String words) { }

  private static final List<Quote> quotes = new ArrayList<>();
  private static Quote now = new Quote(TERMS, "");

  private static void says(int where, String words) {
    now = new Quote(where, words);
    quotes.add(now);
  }

  private static void miss(String text) {
    wrong++;
    if (wrong <= 60) System.out.println((now.where == TERMS ? "Terms" : now.where == USE ? "Use" : "Promise " + now.where) + ", '" + now.words + "': " + text);
  }

  private static void due(String call, int got, int want) {
    asked++;
    if (got != want) miss(call + " answered " + got + ", due is " + want);
  }

  private static void due(String call, String got, String want) {
    asked++;
    if (!got.equals(want)) miss(call + " is " + got + ", due is " + want);
  }

  // ---- pictures

  private static final String ONE = "d11;x;";
  // two dots that meet at a corner, either way
  private static final String PAIR = "d22;xo;ox;", OTHER_PAIR = "d22;ox;xo;";
  // corners (1,0) (2,0) (2,1) (2,2) (1,2) (0,2) (0,1) (1,1); BEST is 0 1 3 5
  private static final String HALF = "d22;ox;xx;";
  // the dots right and below the light one meet at a corner of it: corner (2,2), walked by twice
  private static final String PINCH = "d33;xxx;xox;xxo;";
  private static final String PLUS = "d33;oxo;xxx;oxo;";
  private static final String SLOPE = "d83;xxxooooo;xxxxxxoo;xxxxxxxx;";
  // the same, x and y exchanged
  private static final String STEEP = "d38;xxx;xxx;xxx;oxx;oxx;oxx;oox;oox;";
  // BEST has its top at (4,0), its bottom at (4,2), each with a TURN of 16
  private static final String ROOF = "d83;oooxxooo;oxxxxxxo;xxxxxxxx;", VALLEY = "d83;xoooooox;xxxooxxx;xxxxxxxx;";
  // up one dot every second step, from (0,0) to (8,4) and from (0,4) to (8,0): no stretch is longer
  private static final String STAIRS = "d85;xooooooo;xxxooooo;xxxxxooo;xxxxxxxo;xxxxxxxx;";
  private static final String OTHER_STAIRS = "d85;ooooooox;oooooxxx;oooxxxxx;oxxxxxxx;xxxxxxxx;";
  private static final String NESTED = "d88;xxxxxxxx;xoooooox;xoxxxxox;xoxooxox;xoxooxox;xoxxxxox;xoooooox;xxxxxxxx;";
  private static final String DARKEST = "d88;" + "xxxxxxxx;".repeat(8), LIGHTEST = "d88;" + "oooooooo;".repeat(8);
  private static final String BOARD = "d88;" + "xoxoxoxo;oxoxoxox;".repeat(4);

  private static void tell(DotOutlines d, String tape) {
    for (int k = 0; k < tape.length(); k++) d.feed(tape.charAt(k));
  }

  private static int read(DotOutlines d, String tape) {
    tell(d, tape);
    return d.picture();
  }

  private static DotOutlines of(String tape) {
    DotOutlines d = new DotOutlines();
    if (read(d, tape) < 0) miss("not read: " + tape);
    return d;
  }

  private static DotOutlines joined(String tape) {
    DotOutlines d = of(tape);
    d.joined(1);
    return d;
  }

  private static DotOutlines sharp(String tape, int v) {
    DotOutlines d = of(tape);
    d.sharp(v);
    return d;
  }

  // rows of dots, as far as a dot is told of, each by a question
  private static String rows(ToIntBiFunction<Integer, Integer> dot) {
    StringBuilder text = new StringBuilder();
    for (int y = 0; y < 9 && dot.applyAsInt(0, y) >= 0; y++) {
      for (int x = 0; x < 9; x++) {
        int answer = dot.applyAsInt(x, y);
        if (answer < 0) break;
        text.append(answer == 1 ? 'x' : 'o');
      }
      text.append(';');
    }
    return text.toString();
  }

  private static String dots(DotOutlines d) { return rows(d::dot); }

  private static String insides(DotOutlines d, int border) { return rows((x, y) -> d.inside(border, x, y)); }

  private static String filled(DotOutlines d, int border, int kind) { return rows((x, y) -> d.filled(border, kind, x, y)); }

  private static String line(int many, ToIntFunction<Integer> asked) {
    StringBuilder text = new StringBuilder();
    for (int k = 0; k < many; k++) text.append(k == 0 ? "" : " ").append(asked.applyAsInt(k));
    return text.toString();
  }

  // whither the steps of a border go
  private static String walk(DotOutlines d, int border) { return line(d.border(border, 0), k -> d.corner(border, k, 2)).replace(" ", ""); }

  private static String corners(DotOutlines d, int border) {
    StringBuilder text = new StringBuilder();
    for (int k = 0; k < d.border(border, 0); k++) text.append(d.corner(border, k, 0)).append(d.corner(border, k, 1)).append(' ');
    return text.toString().trim();
  }

  private static String vertices(DotOutlines d, int border, int what) { return line(d.best(border, 0), k -> d.vertex(border, k, what)); }

  private static String counts(DotOutlines d) { return line(6, d::count); }

  // ---- changes

  // all about the borders
  private static String shape(DotOutlines d) {
    int many = d.borders();
    StringBuilder text = new StringBuilder().append(many).append(" and ").append(d.border(many, 0));
    for (int b = 0; b < many; b++) {
      int border = b;
      text.append(", ").append(line(6, k -> d.border(border, k))).append(" walk ").append(walk(d, b)).append(" best ").append(line(4, k -> d.best(border, k)));
      for (int what = 0; what < 3; what++) text.append(" vertices ").append(vertices(d, b, what));
      text.append(" past ").append(line(d.border(b, 0), k -> d.past(border, k))).append(" differ ").append(d.differ(b, 1));
    }
    return text.append(" all ").append(line(3, d::all)).toString();
  }

  // what was asked ahead of a change does not stay: all is as of an object that has read that picture anew
  private static void changed(String what, ToIntFunction<DotOutlines> change, String tape, int joined, int sharp) {
    DotOutlines d = of(PINCH), anew = of(tape);
    d.image(0);
    d.joined(1);
    d.sharp(20);
    shape(d);
    change.applyAsInt(d);
    anew.joined(joined);
    anew.sharp(sharp);
    due("all about the borders behind " + what, shape(d), shape(anew));
  }

  // ---- refusals

  // no picture: nothing yet; or two bytes on the tape and a fault of 2
  private static DotOutlines fresh() { return new DotOutlines(); }

  private static DotOutlines faulty() {
    DotOutlines d = new DotOutlines();
    read(d, "d9");
    tell(d, "d1");
    return d;
  }

  // 4 wide, 3 high, two borders (14 corners, 5 vertices, of which 4 is ROUND; 4 and 4), JOINED, SHARP 7, three acts,
  // image 1, two bytes on the tape, a fault of 2
  private static DotOutlines busy() {
    DotOutlines d = new DotOutlines();
    read(d, "d11;y;");
    read(d, "d21;xo;");
    d.image(1);
    read(d, "d43;oxxx;xxxx;xxxx;");
    d.flip(2, 1);
    d.joined(1);
    d.sharp(7);
    tell(d, "d1");
    return d;
  }

  // the same picture, eight acts and one forgotten, both images, a tape of 90 bytes
  private static DotOutlines full() {
    DotOutlines d = of("d43;oxxx;xxox;xxxx;");
    d.image(0);
    for (int n = 1; n <= 8; n++) d.sharp(n);
    d.flip(0, 0);
    d.flip(0, 0);
    d.image(1);
    tell(d, "d11;x;" + "y".repeat(84));
    return d;
  }

  // what stands now, then all that can be undone, the images, the tape: the object is used up by it
  private static String seen(DotOutlines d) {
    StringBuilder text = new StringBuilder(counts(d)).append(" fault ").append(d.fault()).append(' ').append(dots(d));
    int many = d.borders();
    text.append(" borders ").append(many);
    for (int b = 0; b < many; b++) {
      int border = b;
      text.append(", ").append(line(6, k -> d.border(border, k))).append(" best ").append(line(4, k -> d.best(border, k)));
    }
    text.append(" wrong ").append(line(2, d::wrong)).append(" all ").append(line(3, d::all));
    for (int left = d.undo(); left >= 0; left = d.undo()) text.append(" undo ").append(left).append(' ').append(d.count(2)).append(d.count(3)).append(dots(d));
    for (int k = 0; k < 2; k++) text.append(" restore ").append(d.restore(k)).append(' ').append(counts(d)).append(dots(d));
    return text.append(" tape ").append(d.picture()).append(' ').append(d.fault()).append(dots(d)).toString();
  }

  private static void refused(String call, Supplier<DotOutlines> made, ToIntFunction<DotOutlines> asked, int want) {
    DotOutlines d = made.get();
    due(call, asked.applyAsInt(d), want);
    due("what stands behind " + call, seen(d), seen(made.get()));
  }

  // without a picture, whatever else there is
  private static void withoutPicture(String call, ToIntFunction<DotOutlines> asked, int want) {
    refused(call + " on a new object", EdgeTests::fresh, asked, want);
    refused(call + " behind a fault", EdgeTests::faulty, asked, want);
  }

  // one number of a call, the others as told: its least and its greatest value are answered, those beyond are BAD
  private static void edges(String call, int low, int high, ToIntBiFunction<DotOutlines, Integer> asked) {
    for (int v : new int[] {low, high}) {
      int answer = asked.applyAsInt(busy(), v);
      due(call + " of " + v + " (answered " + answer + ") is refused", answer < NONE && answer >= FULL ? 1 : 0, 0);
    }
    beyond(call, low - 1, asked);
    beyond(call, LOW, asked);
    if (high == HIGH) return;
    beyond(call, high + 1, asked);
    beyond(call, HIGH, asked);
  }

  private static void beyond(String call, int v, ToIntBiFunction<DotOutlines, Integer> asked) {
    refused(call + " of " + v, EdgeTests::busy, d -> asked.applyAsInt(d, v), BAD);
    refused(call + " of " + v + ", all being full", EdgeTests::full, d -> asked.applyAsInt(d, v), BAD);
  }

  // ---- use

  private static void use() {
    says(USE, "An object is used for at most 512 calls after it has been made; what later calls answer is free.");
    DotOutlines d = of(DARKEST);
    int calls = 77;
    for (; calls < 510; calls++) d.flip(calls % 8, calls / 8 % 8);
    // 433 flips: six of each dot, a seventh of 49 of them
    due("the 511th call", d.count(1), 15);
    due("the 512th call", d.undo(), 7);
  }

  // ---- terms: numbers, refusals

  private static void numbers() {
    says(TERMS, "Numbers go from 0 on.");
    DotOutlines d = of(ONE);
    due("dot 0, 0", d.dot(0, 0), 1);
    due("border 0", d.border(0, 0), 4);
    due("border 1 of one", d.border(1, 0), BAD);
    due("corner 0", d.corner(0, 0, 2), 0);
    due("vertex 0", d.vertex(0, 0, 0), 0);
    due("image 0", d.image(0), 1);
    due("dot -1", d.dot(-1, 0), BAD);
    due("border -1", d.border(-1, 0), BAD);
    due("corner -1", d.corner(0, -1, 0), BAD);
    due("vertex -1", d.vertex(0, -1, 0), BAD);
    due("image -1", d.image(-1), BAD);

    says(TERMS, "All that is divided is cut towards 0.");
    // 8 times 2, by 2 and 1
    due("TURN of 16 by 3", of(HALF).vertex(0, 0, 1), 5);
    due("SHARP 5, at a TURN of 16 by 3", sharp(HALF, 5).vertex(0, 0, 2), 1);
    due("SHARP 6, at a TURN of 16 by 3", sharp(HALF, 6).vertex(0, 0, 2), 0);
    // 8 times 1, by 1 and 2
    due("TURN of 8 by 3", of("d43;oxxx;xxxx;xxxx;").vertex(0, 4, 1), 2);
  }

  private static void orderOfRefusals() {
    says(TERMS, "Refusals are answers, the first of these that fits, but as told:"
        + " BAD (a number is not as told; there is no such thing), STATE (as told), FULL (as told).");
    due("NONE", DotOutlines.NONE, NONE);
    due("BAD", DotOutlines.BAD, BAD);
    due("STATE", DotOutlines.STATE, STATE);
    due("FULL", DotOutlines.FULL, FULL);
    due("BAD and FULL", full().feed(256), BAD);
    due("BAD and FULL", full().feed(-1), BAD);
    due("FULL alone", full().feed(255), FULL);
    due("BAD and STATE: image", fresh().image(2), BAD);
    due("BAD and STATE: restore", fresh().restore(-1), BAD);
    due("as told, STATE and BAD: joined", fresh().joined(2), STATE);
    due("as told, STATE and BAD: sharp", fresh().sharp(33), STATE);
    due("as told, STATE and BAD: wrong", fresh().wrong(-1), STATE);
    due("as told, STATE and BAD: all", fresh().all(3), STATE);
    due("BAD and NONE: point, SHARP", busy().point(0, 0, 4, 0), BAD);
    due("BAD and NONE: point, SHARP", busy().point(0, 0, 1, 2), BAD);
    due("NONE alone", busy().point(0, 0, 3, 1), NONE);
  }

  private static void nothingChanged() {
    says(TERMS, "What is refused changes nothing.");
    List<Supplier<DotOutlines>> states = List.of(EdgeTests::fresh, EdgeTests::faulty, EdgeTests::busy, EdgeTests::full);
    for (Supplier<DotOutlines> made : states) {
      DotOutlines d = made.get();
      int refusals = 0;
      for (int v : new int[] {-1, 99}) refusals += allRefused(d, v);
      due("refusals", refusals, 54);
      due("what stands behind them", seen(d), seen(made.get()));
    }
  }

  private static int allRefused(DotOutlines d, int v) {
    int[] answers = {d.feed(v == 99 ? 256 : v), d.flip(v, 0), d.flip(0, v), d.frame(v, 0, 0, 0, 1), d.frame(0, v, 0, 0, 1),
        d.frame(0, 0, v, 0, 1), d.frame(0, 0, 0, v, 1), d.frame(0, 0, 0, 0, v), d.joined(v), d.sharp(v), d.dot(v, 0), d.border(v, 0),
        d.corner(0, 0, v), d.inside(0, v, 0), d.straight(0, v, 1), d.off(0, 0, v), d.longest(0, v), d.best(v, 0), d.vertex(0, v, 0),
        d.past(0, v), d.point(0, 0, 1, v), d.filled(0, v, 0, 0), d.differ(0, v), d.wrong(v), d.all(v), d.image(v), d.restore(v)};
    int many = 0;
    for (int answer : answers) if (answer == BAD || answer == STATE) many++;
    return many;
  }

  // ---- terms: the picture

  private static void pictures() {
    says(TERMS, "A PICTURE is W DOTS wide, H high (1 to 8 each);");
    for (int w = 0; w <= 9; w++)
      for (int h = 0; h <= 9; h++) sized(w, h);

    says(TERMS, "each DOT x, y (x from the left, y from the top) is DARK or light;");
    DotOutlines d = of("d32;xoo;oox;");
    due("dots", line(6, k -> d.dot(k % 3, k / 3)), "1 0 0 0 0 1");

    says(TERMS, "what is outside is light.");
    for (int w = 1; w <= 8; w++)
      for (int h = 1; h <= 8; h++) {
        DotOutlines all = of("d" + w + h + ";" + ("x".repeat(w) + ";").repeat(h));
        due("a border along the edges of " + w + " by " + h, walk(all, 0), "0".repeat(w) + "1".repeat(h) + "2".repeat(w) + "3".repeat(h));
        due("borders of " + w + " by " + h, all.borders(), 1);
      }
    // a row's last dot and the next row's first one do not touch, nor do the last row and the first one
    due("left and right edge", of("d83;oooooooo;ooooooox;xooooooo;").borders(), 2);
    due("upper and lower edge", of("d88;xooooooo;" + "oooooooo;".repeat(6) + "xooooooo;").borders(), 2);

    says(TERMS, "CORNER x, y is the upper left one of DOT x, y (x to W, y to H).");
    due("corners of dot 1, 0 of 2, 1", corners(of("d21;ox;"), 0), "10 20 21 11");
    due("corners of dot 7, 7 of 8, 8", corners(of("d88;" + "oooooooo;".repeat(7) + "ooooooox;"), 0), "77 87 88 78");
  }

  private static void sized(int w, int h) {
    DotOutlines d = new DotOutlines();
    int answer = read(d, "d" + w + h + ";" + ("x".repeat(w) + ";").repeat(h).substring(0, Math.min(86, (w + 1) * h)));
    boolean wide = w >= 1 && w <= 8, high = h >= 1 && h <= 8;
    due("reading " + w + " by " + h, answer, wide && high ? w * h : wide ? -1000102 : -1000101);
    due("fault of " + w + " by " + h, d.fault(), wide && high ? 0 : 2);
    due("DOTS of " + w + " by " + h, d.count(0), wide && high ? w * h : 0);
    due("the last dot of " + w + " by " + h, d.dot(w - 1, h - 1), wide && high ? 1 : BAD);
    due("right of it", d.dot(w, h - 1), BAD);
    due("below it", d.dot(w - 1, h), BAD);
  }

  // ---- terms: the tape

  private static void tape() {
    says(TERMS, "THE TAPE has at most 90 bytes, that come one by one;");
    DotOutlines d = new DotOutlines();
    for (int n = 1; n <= 90; n++) due("byte " + n, d.feed('d'), n);
    due("byte 91", d.feed('d'), FULL);
    due("byte 92", d.feed('d'), FULL);
    due("bytes", d.count(5), 90);
    due("reading them", d.picture(), -1000101);
    due("bytes", d.count(5), 0);
    due("the next byte", d.feed('d'), 1);
    due("the greatest picture, 14 bytes behind it", read(new DotOutlines(), DARKEST + "d".repeat(14)), -1000176);
    due("the greatest picture alone", read(new DotOutlines(), DARKEST), 64);

    says(TERMS, "TOKENS: letters a to z (each by itself), digits (each by itself), the SIGN ; nothing else.");
    for (int place = 0; place < FORM.length(); place++)
      for (int letter = 0; letter < 256; letter++) oneByte(place, letter);

    says(TERMS, "picture: d W H ; H times { row ; }.");
    due("a row too few", read(new DotOutlines(), "d12;x;"), -1000106);
    due("as many rows", read(new DotOutlines(), "d12;x;x;"), 2);
    due("a row too many", read(new DotOutlines(), "d12;x;x;x;"), -1000108);
    due("without the last sign", read(new DotOutlines(), "d12;x;x"), -1000107);
    due("a sign too many", read(new DotOutlines(), "d12;x;x;;"), -1000108);
    due("no sign ahead of the rows", read(new DotOutlines(), "d12x;x;"), -1000103);
    due("W ahead of H", of("d12;x;x;").dot(0, 1), 1);

    says(TERMS, "row: W letters, each x (DARK) or o (light).");
    due("a letter too few", read(new DotOutlines(), "d31;xo;"), -1000106);
    due("as many letters", read(new DotOutlines(), "d31;xox;"), 2);
    due("a letter too many", read(new DotOutlines(), "d31;xoxo;"), -1000107);
    due("x and o", dots(of("d31;xox;")), "xox;");
    due("all light", read(new DotOutlines(), LIGHTEST), 0);
  }

  private static void readAnew() {
    says(TERMS, "A PICTURE that is read stands in place of the one before (none at first);");
    DotOutlines d = new DotOutlines();
    due("DOTS at first", d.count(0), 0);
    read(d, DARKEST);
    due("the first", d.count(0), 64);
    read(d, "d21;ox;");
    due("the next one, smaller", dots(d), "ox;");
    due("DOTS", d.count(0), 2);
    due("borders", d.borders(), 1);
    due("corners", corners(d, 0), "10 20 21 11");
    changed("another picture", o -> read(o, HALF), HALF, 0, 8);
    changed("a picture with no border", o -> read(o, "d11;o;"), "d11;o;", 0, 8);

    says(TERMS, "JOINED is 0, SHARP is 8;");
    DotOutlines other = busy();
    due("JOINED and SHARP ahead of it", line(2, k -> other.count(2 + k)), "1 7");
    other.picture();
    due("JOINED and SHARP behind a fault", line(2, k -> other.count(2 + k)), "1 7");
    read(other, "d11;x;");
    due("JOINED and SHARP then", line(2, k -> other.count(2 + k)), "0 8");

    says(TERMS, "no ACT can be undone;");
    due("ACTS ahead of it", busy().count(4), 3);
    due("ACTS", other.count(4), 0);
    due("undo", other.undo(), STATE);
    due("dots", dots(other), "x;");

    says(TERMS, "IMAGES stay.");
    due("restore", other.restore(1), 1);
    due("dots", dots(other), "xo;");
    due("the one that was not kept", other.restore(0), STATE);
  }

  // ---- terms: faults

  // what stands where on the tape d12;x;o; and behind it: n a digit, r a letter of a row
  private static final String FORM = "dnn;r;r;!", GOOD = "d12;x;o;";
  private static final String LETTERS = "abcdefghijklmnopqrstuvwxyz", DIGITS = "0123456789";

  private static int faultAt(int place, int letter) {
    char form = FORM.charAt(place);
    if (form == 'n' && DIGITS.indexOf(letter) >= 0) return letter == '0' || letter == '9' ? 2 : 0;
    if (form == 'r' && LETTERS.indexOf(letter) >= 0) return letter == 'x' || letter == 'o' ? 0 : 2;
    return (form == 'd' || form == ';') && form == letter ? 0 : 1;
  }

  // a byte behind as much as is good: where it has no fault, the end behind it has one, unless the picture is whole
  private static void oneByte(int place, int letter) {
    DotOutlines d = new DotOutlines();
    tell(d, GOOD.substring(0, place));
    d.feed(letter);
    int found = faultAt(place, letter);
    boolean whole = found == 0 && place == GOOD.length() - 1;
    due("byte " + letter + " at " + place, d.picture(), whole ? 1 : -1000100 - (found == 0 ? place + 1 : place));
    due("fault of byte " + letter + " at " + place, d.fault(), whole ? 0 : Math.max(found, 1));
  }

  private static void dueFault(String tape, int place, int number) {
    DotOutlines d = new DotOutlines();
    due("place of the fault in " + tape, read(d, tape), -1000100 - place);
    due("number of the fault in " + tape, d.fault(), number);
  }

  private static void faults() {
    says(TERMS, "FAULTS, the first TOKEN that has one, of one TOKEN the least:");
    dueFault("d99;", 1, 2);
    dueFault("d19;", 2, 2);
    dueFault("d1x9", 2, 1);
    dueFault("d12;y;9;", 4, 2);
    dueFault("d12;9;y;", 4, 1);
    dueFault("d12;x;y", 6, 2);
    dueFault("d12;xy", 5, 1);
    // 0 and 9 are no digits from 1 to 8, but where no digit can stand, they have fault 1 first
    for (String digit : List.of("0", "9")) {
      dueFault(digit, 0, 1);
      dueFault("d12" + digit, 3, 1);
      dueFault("d12;" + digit, 4, 1);
      dueFault("d12;x" + digit, 5, 1);
      dueFault("d12;x;o;" + digit, 8, 1);
    }
    // y is neither x nor o, but where no letter can stand, it has fault 1 first
    dueFault("y", 0, 1);
    dueFault("dy", 1, 1);
    dueFault("d1y", 2, 1);
    dueFault("d12y", 3, 1);
    dueFault("d12;x;o;y", 8, 1);

    says(TERMS, "1 it cannot stand there, or is none (the end: how many bytes there are);");
    for (int many = 0; many < DARKEST.length(); many++) dueFault(DARKEST.substring(0, many), many, 1);
    for (int sign : new int[] {0, 10, 32, '/', ':', '<', '@', 'A', 'D', 'O', 'X', 'Z', '[', '`', '{', 127, 128, 255})
      for (int place = 0; place <= GOOD.length(); place++) dueFault(GOOD.substring(0, place) + (char) sign, place, 1);
    dueFault("d11;x;d11;x;", 6, 1);

    says(TERMS, "2 a digit that is not 1 to 8;");
    for (char digit : DIGITS.toCharArray()) {
      boolean good = digit >= '1' && digit <= '8';
      dueFault("d" + digit, good ? 2 : 1, good ? 1 : 2);
      dueFault("d8" + digit, good ? 3 : 2, good ? 1 : 2);
    }

    says(TERMS, "a letter of a row that is neither x nor o.");
    for (char letter : LETTERS.toCharArray()) {
      boolean good = letter == 'x' || letter == 'o';
      dueFault("d22;" + letter, good ? 5 : 4, good ? 1 : 2);
      dueFault("d22;x" + letter, good ? 6 : 5, good ? 1 : 2);
      dueFault("d22;xx;x" + letter, good ? 9 : 8, good ? 1 : 2);
    }
  }

  // ---- terms: borders

  private static void rest() {
    says(TERMS, "BORDERS are found one by one, in what is REST (all DARK DOTS at first):"
        + " as long as REST has a DOT, the first one, row by row, from the left, is its FIRST DOT:");
    due("none dark", of(LIGHTEST).borders(), 0);
    due("one dark, the last one", of("d88;" + "oooooooo;".repeat(7) + "ooooooox;").borders(), 1);
    due("all dark", of(DARKEST).borders(), 1);
    due("as many as there can be", of(BOARD).borders(), 32);
    due("the last one of them", line(2, k -> of(BOARD).border(31, 3 + k)), "7 7");
    DotOutlines d = of("d33;oox;xoo;oox;");
    due("by rows first: x", line(3, k -> d.border(k, 3)), "2 0 2");
    due("by rows first: y", line(3, k -> d.border(k, 4)), "0 1 2");
    DotOutlines row = of("d51;xoxox;");
    due("from the left", line(3, k -> row.border(k, 3)), "0 2 4");

    says(TERMS, "THE WALK begins at the upper left CORNER of that, going east (0; 1 south, 2 west, 3 north).");
    due("one dot", walk(of(ONE), 0), "0123");
    due("one dot aside", corners(of("d32;ooo;oox;"), 0), "21 31 32 22");
    // the first dot is the upper one, not the left one
    due("a first dot", corners(of(HALF), 0), "10 20 21 22 12 02 01 11");
  }

  private static void walks() {
    says(TERMS, "A step goes to the next CORNER in that direction; L and R are the DOTS that lie ahead of it to the left,"
        + " to the right of that direction (whether they are in REST): if neither is, it turns right; if R alone is,"
        + " it goes straight on; if both are, it turns left; if L alone is, it turns right, where JOINED is 0, left, where that is 1.");
    due("neither, each way", walk(of(ONE), 0), "0123");
    due("R alone, each way", walk(of("d22;xx;xx;"), 0), "00112233");
    due("both, each way", walk(of(PLUS), 0), "010121232303");
    // going south and north; then going west and east
    due("L alone, parted", walk(of(PAIR), 0) + " " + walk(of(PAIR), 1), "0123 0123");
    due("L alone, joined", walk(joined(PAIR), 0), "01012323");
    due("L alone, parted", walk(of(OTHER_PAIR), 0) + " " + walk(of(OTHER_PAIR), 1), "0123 0123");
    due("L alone, joined", walk(joined(OTHER_PAIR), 0), "01212303");
    // where it is parted, the border goes into the light dot and comes out again
    due("L alone, of one body", walk(of(PINCH), 0), "0001123210122333");
    due("L alone, of one body, joined", walk(joined(PINCH), 0) + " " + walk(joined(PINCH), 1), "000112122333 0123");
    // light dots are in REST then, dark ones about them are not
    due("an inner border, by REST", walk(of("d55;xxxxx;xooox;xoxox;xooox;xxxxx;"), 1), "000111222333");
    String holes = "d44;xxxx;xoxx;xxox;xxxx;";
    due("two holes, parted", of(holes).borders(), 3);
    due("two holes, joined", joined(holes).borders(), 2);
    due("two holes, joined", walk(joined(holes), 1), "01012323");

    says(TERMS, "THE WALK ends as it is at its first CORNER, going east as next.");
    // corner (2,2) is passed twice, corner (1,1) of the joined pair, too: neither is the first one
    due("corners", corners(of(PINCH), 0), "00 10 20 30 31 32 22 21 11 12 22 23 13 03 02 01");
    due("corners", corners(joined(PAIR), 0), "00 10 11 21 22 12 11 01");
    due("LONG of the longest straight one", of(DARKEST).border(0, 0), 32);
    due("LONG of a winding one", joined(BOARD).border(0, 0), 56);
  }

  private static void turnedInRest() {
    says(TERMS, "Then all DOTS INSIDE are turned in REST (in it, out of it).");
    due("rings in rings", of(NESTED).borders(), 4);
    due("rings in rings: FIRST DOT", line(4, k -> of(NESTED).border(k, 3)), "0 1 2 3");
    due("rings in rings: AREA", line(4, k -> of(NESTED).border(k, 2)), "64 36 16 4");
    due("a hole in the middle of dark ones", walk(of("d33;xxx;xox;xxx;"), 1), "0123");
    due("all dark", of(DARKEST).borders(), 1);

    says(TERMS, "BORDER 0, 1, ..: as they are found.");
    // the ring; then the dot beside it, in the first row; then the hole, in the second one; then the dot below
    DotOutlines d = of("d54;xxxox;xoxoo;xxxoo;oooox;");
    due("x", line(4, k -> d.border(k, 3)), "0 4 1 4");
    due("y", line(4, k -> d.border(k, 4)), "0 0 1 3");
    due("OUTER", line(4, k -> d.border(k, 1)), "1 1 0 1");
    due("one beyond the last", d.border(4, 0), BAD);
  }

  private static void longs() {
    says(TERMS, "LONG is a BORDER as many steps; CORNER k of it (0 to LONG less 1) is that from which step k goes;"
        + " k is as k less LONG, so it goes round.");
    DotOutlines d = of(HALF);
    due("LONG", d.border(0, 0), 8);
    due("the last corner", line(3, k -> d.corner(0, 7, k)), "1 1 3");
    due("LONG", line(3, k -> d.corner(0, 8, k)), "1 0 0");
    due("LONG and 7", line(3, k -> d.corner(0, 15, k)), "1 1 3");
    due("twice LONG", line(3, k -> d.corner(0, 16, k)), "1 0 0");
    due("the greatest k, 7 of 8", line(3, k -> d.corner(0, HIGH, k)), "1 1 3");
    // 16 steps: 2147483647 is 15 there, of 22 steps 1: the greatest k goes round, whatever LONG is
    due("the greatest k of 16", line(3, k -> of(PINCH).corner(0, HIGH, k)), "0 1 3");
    due("the greatest k of 22", line(3, k -> of(SLOPE).corner(0, HIGH, k)), "1 0 0");

    says(TERMS, "INSIDE: DOTS that have an odd number of steps going north or south to their left, in their row (of this BORDER).");
    due("one dot in the middle", insides(of("d33;ooo;oxo;ooo;"), 0), "ooo;oxo;ooo;");
    due("a light one between, its border apart", insides(of("d33;xxx;xox;xxx;"), 0), "xxx;xxx;xxx;");
    due("a light one between, by the same border", insides(of(PINCH), 0), "xxx;xox;xxo;");
    due("joined", insides(joined(PINCH), 0), "xxx;xxx;xxo;");
    due("in and out", insides(of("d52;xoxox;xxxxx;"), 0), "xoxox;xxxxx;");
    due("up to the edges", insides(of(DARKEST), 0), DARKEST.substring(4));

    says(TERMS, "AREA: how many DOTS are INSIDE.");
    due("the least", of(ONE).border(0, 2), 1);
    due("the greatest", of(DARKEST).border(0, 2), 64);
    due("light ones, too", of("d33;xxx;xox;xxx;").border(0, 2), 9);
    due("light ones outside, not", of(PINCH).border(0, 2), 7);

    says(TERMS, "A BORDER is OUTER (1), if its FIRST DOT is DARK in the PICTURE, else INNER (0).");
    due("rings in rings", line(4, k -> of(NESTED).border(k, 1)), "1 0 1 0");
    due("one dot", of(ONE).border(0, 1), 1);
  }

  // ---- terms: stretches

  private static void stretches() {
    says(TERMS, "A STRETCH from CORNER i, s steps long (1 to LONG less 1) is STRAIGHT, if twice C is no more than M,"
        + " at each CORNER k on it: C is what dx times (y of k less y of i) and dy times (x of k less x of i) differ by,"
        + " M the greater of dx, dy without signs; dx, dy from CORNER i to the last one.");
    DotOutlines d = of(SLOPE);
    // by (3,0) (3,1), with C 3 at each: twice 3 is more than 5, not more than 6
    due("from (0,0) to (5,1), M is 5", d.straight(0, 0, 6), 0);
    due("from (0,0) to (6,1), M is 6", d.straight(0, 0, 7), 1);
    due("from (0,0) to (6,2), C is 6", d.straight(0, 0, 8), 0);
    DotOutlines steep = of(STEEP);
    due("from (1,6) to (0,1), M is 5", steep.straight(0, 15, 6), 0);
    due("from (1,6) to (0,0), M is 6, round the end", steep.straight(0, 15, 7), 1);
    // the least that are aslant: twice 1 is more than 1, not more than 2
    due("from (0,1) to (1,0)", of(HALF).straight(0, 6, 2), 0);
    due("from (0,1) to (2,0)", of(HALF).straight(0, 6, 3), 1);
    due("from (0,2) to (1,0)", of(HALF).straight(0, 5, 3), 1);
    due("from (2,0) to (1,1), first out", of("d22;xx;xo;").straight(0, 2, 2), 0);
    for (int i = 0; i < 22; i++) due("one step from " + i, d.straight(0, i, 1), 1);
    due("one step less than round", d.straight(0, 0, 21), 0);
    due("no step", d.straight(0, 0, 0), BAD);
    due("round", d.straight(0, 0, 22), BAD);
    due("as long as there is, along the edge", of(DARKEST).straight(0, 24, 8), 1);
    due("and one more", of(DARKEST).straight(0, 24, 9), 0);

    says(TERMS, "(A STRETCH that ends where it begins is not STRAIGHT.)");
    due("from (2,2) to (2,2)", of(PINCH).straight(0, 6, 4), 0);
    due("from (2,2) to (2,2), round the end", of(PINCH).straight(0, 10, 12), 0);
    due("from (1,1) to (1,1)", joined(PAIR).straight(0, 2, 4), 0);
    due("OFF of it", of(PINCH).off(0, 6, 4), NONE);

    says(TERMS, "OFF of it: all C times C, together.");
    due("none between", d.off(0, 0, 1), 0);
    due("along an edge", d.off(0, 11, 8), 0);
    due("1 2 3 3 2 1", d.off(0, 0, 7), 28);
    due("1 2 3 3 2 1, round the end", steep.off(0, 15, 7), 28);
    due("1 1", of(HALF).off(0, 5, 3), 2);
  }

  // ---- terms: polygons

  private static void polygons() {
    says(TERMS, "A POLYGON of a BORDER: some of its CORNERS, at least 2, rising by their numbers, so that each STRETCH from"
        + " one to the next one (from the last one on to the first one) is STRAIGHT.");
    // to each of the four ways at least one stretch goes
    due("the fewest there can be", of(ONE).best(0, 0), 4);
    due("the last stretch goes on to the first corner", vertices(of(HALF), 0, 0), "0 1 3 5");
    due("no corner twice where it is passed twice", vertices(of(PINCH), 0, 0), "0 3 5 8 11 13");

    says(TERMS, "BEST: of the fewest CORNERS, of these with the least OFF of all STRETCHES together, of these the one that has"
        + " the lesser number where both are first unlike.");
    // all corners would have OFF 0
    due("fewer ahead of less OFF", line(2, k -> of(HALF).best(0, k)), "4 2");
    // 0 3 6 7 8 11 has OFF 8
    DotOutlines d = of("d34;oxo;xxx;xxo;oxo;");
    due("less OFF ahead of lesser numbers", vertices(d, 0, 0), "1 4 5 7 10 12");
    due("its OFF", d.best(0, 1), 6);
    // 0 7 8 10 11 19 has OFF 28
    due("less OFF", vertices(of(SLOPE), 0, 0), "0 2 5 10 11 19");
    // by the longest stretch there is, OFF 8 times 16
    due("the longest stretch ahead", vertices(of(STAIRS), 0, 0) + ", " + of(STAIRS).best(0, 1), "0 12 13 21, 128");
    due("the longest stretch behind", vertices(of(OTHER_STAIRS), 0, 0) + ", " + of(OTHER_STAIRS).best(0, 1), "1 6 14 15, 128");
    // 1 6 11 17 18 has OFF 18, too; from corner 11 it goes 3 steps, OFF 2, though 6 steps are STRAIGHT, OFF 16
    due("not by the longest stretch", vertices(of("d55;oooox;ooxxx;oxxxx;oxxxx;xxxxx;"), 0, 0), "1 6 11 14 15");
    // 1 3 5 6 has OFF 2, too
    due("the first one unlike", vertices(of(HALF), 0, 0), "0 1 3 5");
    // 0 1 4 7, 0 3 4 5 and 0 3 4 7 have OFF 4, too
    due("the second one, the last one unlike", vertices(joined(PAIR), 0, 0), "0 1 4 5");

    says(TERMS, "VERTICES: its CORNERS.");
    DotOutlines slope = of(SLOPE);
    due("x", line(6, k -> slope.corner(0, slope.vertex(0, k, 0), 0)), "0 2 4 8 8 0");
    due("y", line(6, k -> slope.corner(0, slope.vertex(0, k, 0), 1)), "0 0 1 2 3 3");
  }

  private static void turns() {
    says(TERMS, "TURN of a VERTEX v, u the one ahead of it, w the one behind it (round about): 8 times what"
        + " (x of v less x of u) times (y of w less y of v) and (y of v less y of u) times (x of w less x of v) differ by,"
        + " by the greater of both steps from u to v (in x, y, without signs) and the greater of both from v to w, together.");
    // 16 by 3, 16 by 3, 32 by 4, 32 by 4: the first one's u is the last one, the last one's w the first one
    due("TURNS", vertices(of(HALF), 0, 1), "5 5 8 8");
    due("the least square", vertices(of(ONE), 0, 1), "4 4 4 4");
    due("the greatest square", vertices(of(DARKEST), 0, 1), "32 32 32 32");
    // to the left: 8 times 16 by 8, as much as to the right
    due("to the right", of(ROOF).vertex(0, 0, 1), 16);
    due("to the left", of(VALLEY).vertex(0, 1, 1), 16);

    says(TERMS, "It is SHARP, if its TURN is SHARP or more, or v lies no further on from u to w"
        + " (the steps, multiplied, x by x and y by y, together, are 0 or less); else it is ROUND.");
    due("TURN of SHARP and one more", sharp(ROOF, 15).vertex(0, 0, 2), 1);
    due("TURN of SHARP", sharp(ROOF, 16).vertex(0, 0, 2), 1);
    due("TURN of SHARP less one", sharp(ROOF, 17).vertex(0, 0, 2), 0);
    due("TURN of SHARP, to the left", sharp(VALLEY, 16).vertex(0, 1, 2), 1);
    due("TURN of SHARP less one, to the left", sharp(VALLEY, 17).vertex(0, 1, 2), 0);
    // (1,-2) and (1,0): 1; (1,0) and (0,2): 0; (0,2) and (-2,0): 0; (-2,0) and (1,-2): -2
    due("1, 0, 0, -2", vertices(sharp(HALF, 32), 0, 2), "0 1 1 1");
    // (-1,-2) and (1,0): -1, with a TURN of 5; (1,0) and (1,2): 1
    DotOutlines pair = joined(PAIR);
    due("TURNS", vertices(pair, 0, 1), "5 5 5 5");
    due("-1, 1, -1, 1", vertices(pair, 0, 2), "1 0 1 0");
    due("the least SHARP", vertices(sharp(HALF, 1), 0, 2), "1 1 1 1");
    due("SHARP 32, TURN 32", vertices(sharp(DARKEST, 32), 0, 2), "1 1 1 1");
  }

  // ---- terms: outlines, what is filled

  private static final String[] NEAR = {"d74;xxxxxxx;xxxxxxx;xxxxxxo;xxxxxxo;", "d84;ooooooxo;oooxxxxo;xxxxxxxx;xxxxxxxx;",
      "d65;xxxooo;xxxxxx;oxxxxx;xxxxxx;oooxxx;", "d48;oxxx;oxxx;xxxo;xxxo;xxxx;xxxx;xxxx;xxoo;", "d74;ooxxxxo;ooxxxxo;ooxxxxx;ooxxxxx;",
      "d84;oooxxxxx;ooooxxxx;oooooxxo;ooooooxo;", "d47;ooox;ooxx;oxxx;xxxx;xxxo;xxxx;xxoo;", "d43;ooxx;xxxx;xxoo;",
      "d48;oxxo;xxxx;xxxx;xxxo;xxxx;xxxx;xxxx;ooxx;"};

  private static void outlines() {
    says(TERMS, "OUTLINE: round all VERTICES; from the MIDDLE of u and v to the MIDDLE of v and w: by v, if that is SHARP;"
        + " if it is ROUND, straight on by three points: the first is 9 of 16 parts the one MIDDLE, 6 v, 1 the other MIDDLE;"
        + " the second 4, 8, 4; the third 1, 6, 9.");
    // u (0,2), v (1,0), w (2,0)
    DotOutlines d = of(HALF);
    due("x", line(3, k -> d.point(0, 0, 1 + k, 0)), "24 32 40");
    due("y", line(3, k -> d.point(0, 0, 1 + k, 1)), "18 8 2");
    due("by v", filled(sharp(ROOF, 16), 0, 1), "oooxxooo;oxxxxxxo;xxxxxxxx;");
    due("by three points, the second at the height of the dots' centres", filled(sharp(ROOF, 17), 0, 1), "oooooooo;oxxxxxxo;xxxxxxxx;");
    due("by v, to the left", filled(sharp(VALLEY, 16), 0, 1), "xoooooox;xxxooxxx;xxxxxxxx;");
    due("by three points, to the left", filled(sharp(VALLEY, 17), 0, 1), "xoooooox;xxxxxxxx;xxxxxxxx;");

    says(TERMS, "FILLED are DOTS: a DOT whose centre has an odd number of sides of a POLYGON (kind 0: BEST; 1: OUTLINE) to its left:"
        + " sides of which one end is above its row's middle (less y), the other one not, and that cross this at less x than the centre's.");
    due("one dot", filled(of("d33;ooo;oxo;ooo;"), 0, 0), "ooo;oxo;ooo;");
    due("one dot, its sides parted at the row's middle", filled(of("d33;ooo;oxo;ooo;"), 0, 1), "ooo;oxo;ooo;");
    due("all", filled(of(DARKEST), 0, 0), DARKEST.substring(4));
    due("all, by OUTLINE", filled(of(DARKEST), 0, 1), DARKEST.substring(4));
    due("a kind of its own", filled(sharp(ROOF, 32), 0, 0), "oooxxooo;oxxxxxxo;xxxxxxxx;");
    // the second point at (1,4) is 48, 112: the centre of dot 1, 3, so no side crosses at less x there
    DotOutlines through = sharp("d64;xxxooo;xxxxoo;oxxxxx;oxxxxx;", 32);
    due("through a centre: 32 times x, y", through.point(0, 5, 2, 0) + " " + through.point(0, 5, 2, 1), "48 112");
    due("through a centre", filled(through, 0, 1), "xxxooo;xxxxoo;oxxxxx;ooxxxx;");
    // sides that cross less than a 32nd of a dot to the left of a centre: from 16, 160 to 15, 129 at a height of 144;
    // from 168, 100 to 186, 129 at a height of 112, where the centre has 176; from 19, 96 to 12, 128 at a height of 112
    due("just to the left", sharp("d77;oooooxx;oooxxxx;oxxxxxx;xxxxxxx;xxxxxxx;oxxxxxx;oxxxxxx;", 32).filled(0, 1, 0, 4), 1);
    due("just to the left", sharp("d67;xooooo;xxxooo;xxxxxo;xxxxxx;xxxxxx;xxxxxx;xxxxxx;", 32).filled(0, 1, 5, 3), 0);
    due("just to the left", sharp("d48;ooxx;oxxx;oxxx;xxxx;xxxx;xxxx;oxxx;oxxx;", 32).filled(0, 1, 0, 3), 1);
    // the second point at (0,1) is 24, 40, the first one 6, 58: at a height of 48 by 16, the centre of dot 0, 1, once more
    due("through a centre, between two points", filled(sharp("d64;oooxxx;xxxxxx;xxxxxx;xxxxxx;", 32), 0, 1), "oooxxx;oxxxxx;xxxxxx;xxxxxx;");
    due("the highest point at 128, 12 and 160, 11", filled(sharp("d83;oooxxxoo;oxxxxxxx;xxxxxxxx;", 32), 0, 1), "oooxxxoo;oxxxxxxx;xxxxxxxx;");
    due("many vertices", filled(sharp("d48;oxxo;xxxx;xxxx;xxxo;xxxx;xxxx;xxxx;ooxx;", 32), 0, 1), "oxxo;xxxx;xxxx;xxxo;xxxx;xxxx;oxxx;ooxx;");
    // slanted sides of BEST that pass near to centres, at all edges
    for (String tape : NEAR) for (int kind = 0; kind < 2; kind++) due(tape + " by kind " + kind, filled(of(tape), 0, kind), tape.substring(4));
  }

  private static void acts() {
    says(TERMS, "ACTS (8 at most are kept, of more the oldest is forgotten; each can be undone, the latest first;"
        + " also such by which nothing becomes another): a DOT turned, a frame laid, JOINED, SHARP told anew (as they were, too).");
    for (int many = 0; many <= 10; many++) {
      DotOutlines d = of(ONE);
      for (int n = 1; n <= many; n++) d.sharp(20 + n);
      int kept = Math.min(many, 8);
      due(many + " acts, kept", d.count(4), kept);
      for (int left = kept - 1; left >= 0; left--) {
        due(many + " acts, undo", d.undo(), left);
        due(many + " acts, SHARP then", d.count(3), many - kept + left == 0 ? 8 : 20 + many - kept + left);
      }
      due(many + " acts, undo of none", d.undo(), STATE);
    }
    DotOutlines d = of("d21;xo;");
    d.frame(0, 0, 0, 0, 1);
    due("a frame that changes nothing", d.count(4), 1);
    d.joined(0);
    due("JOINED as it was", d.count(4), 2);
    d.sharp(8);
    due("SHARP as it was", d.count(4), 3);
    d.flip(1, 0);
    due("a DOT turned", d.count(4), 4);
    due("the latest first", d.undo() + dots(d), "3xo;");
    due("the others change nothing", d.undo() + " " + d.undo() + " " + d.undo() + " " + dots(d) + d.count(2) + d.count(3), "2 1 0 xo;08");
    // eight acts of all kinds, then undone one by one
    DotOutlines mixed = of(PAIR);
    mixed.flip(1, 0); mixed.joined(1); mixed.sharp(3); mixed.frame(0, 0, 1, 1, 2);
    mixed.flip(1, 0); mixed.joined(0); mixed.sharp(4); mixed.frame(0, 0, 0, 1, 1);
    String[] due = {"xx;xo;04", "ox;xo;04", "ox;xo;03", "ox;xo;13", "oo;xo;13", "xx;ox;13", "xx;ox;18", "xx;ox;08", "xo;ox;08"};
    for (int n = 0; n < due.length; n++) {
      due("behind " + n + " undone", dots(mixed) + mixed.count(2) + mixed.count(3), due[n]);
      due("undo", mixed.undo(), n < 8 ? 7 - n : STATE);
    }
    // eight flips, JOINED told behind each: of the sixteen acts the last eight are kept
    DotOutlines many = of("d81;oooooooo;");
    for (int n = 0; n < 8; n++) due("JOINED", many.flip(n, 0) + many.joined(1 - n % 2), 1 + n % 2);
    for (int n = 7; n >= 4; n--) {
      due("JOINED undone", many.undo() + " " + many.count(2), 2 * n - 8 + 1 + " " + n % 2);
      due("a flip undone", many.undo() + dots(many), 2 * n - 8 + "x".repeat(n) + "o".repeat(8 - n) + ";");
    }
    due("the first eight acts are forgotten", many.undo() + dots(many) + many.count(2), STATE + "xxxxoooo;0");
    DotOutlines late = of(ONE);
    for (int n = 0; n < 16; n++) late.joined(n / 8);
    due("JOINED of 1, eight times, undone", line(16, k -> k % 2 == 0 ? late.undo() : late.count(2)), "7 1 6 1 5 1 4 1 3 1 2 1 1 1 0 0");
  }

  // ---- promises 1 to 5: what is told

  private static void toldPromises() {
    says(1, "No PICTURE.");
    due("counts", counts(fresh()), "0 0 0 0 0 0");
    due("borders", fresh().borders(), STATE);
    due("dot", fresh().dot(0, 0), BAD);
    due("fault", fresh().fault(), 0);
    due("an object by itself", joined(PAIR).count(1) + " " + fresh().count(1), "2 0");

    says(2, "A byte (0 to 255) comes behind the tape: how many it has.");
    DotOutlines d = new DotOutlines();
    due("the least byte", d.feed(0), 1);
    due("the greatest byte", d.feed(255), 2);
    due("bytes", d.count(5), 2);
    for (int n = 3; n <= 89; n++) d.feed('d');
    due("byte 90", d.feed('d'), 90);
    DotOutlines row = new DotOutlines();
    tell(row, "d21;x");
    due("a byte behind the others", row.feed('o') + " " + row.feed(';') + " " + row.picture() + " " + dots(row), "6 7 1 xo;");

    says(2, "BAD; FULL.");
    edgesOfFeed();
    refused("byte 91", EdgeTests::full, o -> o.feed('d'), FULL);
    refused("byte 91, of 0", EdgeTests::full, o -> o.feed(0), FULL);
    refused("byte 91, of 255", EdgeTests::full, o -> o.feed(255), FULL);

    says(3, "The tape, empty then, is read: how many DOTS are DARK.");
    due("none", read(new DotOutlines(), "d11;o;"), 0);
    due("all", read(new DotOutlines(), DARKEST), 64);
    due("the tape then", of(DARKEST).count(5), 0);
    DotOutlines twice = of("d21;xo;");
    due("an empty tape", twice.picture() + " " + twice.fault() + " " + dots(twice), "-1000100 1 xo;");
    due("a tape anew", read(twice, "d12;x;x;") + " " + dots(twice), "2 x;x;");
  }

  private static void edgesOfFeed() {
    for (int v : new int[] {-1, 256, LOW, HIGH}) {
      withoutPicture("feed(" + v + ")", d -> d.feed(v), BAD);
      beyond("feed", v, (d, letter) -> d.feed(letter));
    }
  }

  private static void faultPromises() {
    says(3, "-1000100 less the place of a FAULT: all stays, but the tape is empty then, and fault() tells this one.");
    due("place 0", fresh().picture(), -1000100);
    due("the greatest place", read(fresh(), DARKEST + "x"), -1000176);
    for (String tape : List.of("d", "d43;oxxx;xxyx;", "d11;x;;")) {
      DotOutlines faulted = busy(), empty = busy();
      read(faulted, tape);
      empty.picture();
      due("the tape then", faulted.count(5), 0);
      // busy() has d1 on its tape: 'd' behind it cannot stand there
      due("the fault", faulted.fault(), 1);
      due("all stays behind " + tape, seen(faulted), seen(empty));
    }
    DotOutlines d = busy();
    String before = dots(d) + line(5, d::count) + d.borders() + d.best(0, 1);
    due("fault of an end", d.picture() + " " + d.fault(), "-1000102 1");
    due("all stays", dots(d) + line(5, d::count) + d.borders() + d.best(0, 1), before);
    due("undo", d.undo(), 2);
    due("restore", d.restore(1), 1);

    says(4, "The number of the latest FAULT; 0 before one.");
    DotOutlines f = new DotOutlines();
    due("at first", f.fault(), 0);
    due("behind a picture", read(f, ONE) + " " + f.fault(), "1 0");
    due("of 2", read(f, "d0") + " " + f.fault(), "-1000101 2");
    due("behind a picture", read(f, ONE) + " " + f.fault(), "1 2");
    due("of 1", read(f, "d1") + " " + f.fault(), "-1000102 1");
    due("of 2 again", read(f, "d11;a;") + " " + f.fault(), "-1000104 2");
    due("behind a refused call", f.feed(256) + " " + f.fault(), BAD + " 2");
    due("behind an image", f.image(0) + " " + f.restore(0) + " " + f.fault(), "1 1 2");

    says(5, "The latest ACT is undone: how many can be undone yet.");
    DotOutlines u = of(PAIR);
    u.flip(0, 0);
    u.flip(1, 1);
    due("the latest", u.undo() + dots(u), "1oo;ox;");
    u.flip(0, 1);
    due("another one in its place", u.count(4) + dots(u), "2oo;xx;");
    due("the latest", u.undo() + dots(u), "1oo;ox;");
    due("the first", u.undo() + dots(u), "0xo;ox;");
    due("what is asked then", u.borders() + " " + u.all(0), "2 8");
    changed("undo of SHARP", DotOutlines::undo, PINCH, 1, 8);
    changed("undo of JOINED", o -> o.undo() + o.undo(), PINCH, 0, 8);
    changed("undo of a dot", o -> o.flip(1, 1) + o.borders() + o.undo(), PINCH, 1, 20);

    says(5, "STATE: none.");
    withoutPicture("undo()", DotOutlines::undo, STATE);
    refused("undo() of a new picture", () -> of(PAIR), DotOutlines::undo, STATE);
    refused("undo() behind restore", EdgeTests::restored, DotOutlines::undo, STATE);
    due("all undone", u.undo() + dots(u), STATE + "xo;ox;");
  }

  private static DotOutlines restored() {
    DotOutlines d = busy();
    d.restore(1);
    return d;
  }

  // ---- promises 6 to 9: what is done

  private static void flips() {
    says(6, "A DOT is turned (DARK to light, light to DARK): 1, if it is DARK then, else 0.");
    DotOutlines d = of("d43;xooo;oooo;oooo;");
    due("dark to light", d.flip(0, 0) + dots(d), "0oooo;oooo;oooo;");
    due("light to dark", d.flip(3, 2) + dots(d), "1oooo;oooo;ooox;");
    due("and back", d.flip(3, 2) + dots(d), "0oooo;oooo;oooo;");
    due("the corners", d.flip(0, 2) + d.flip(3, 0) + dots(d), "2ooox;oooo;xooo;");
    DotOutlines last = of(LIGHTEST);
    due("the last dot of all", last.flip(7, 7) + last.dot(7, 7) + last.count(1), 3);
    changed("a flip", o -> o.flip(1, 1), "d33;xxx;xxx;xxo;", 1, 20);
    changed("a flip", o -> o.flip(0, 1), "d33;xxx;oox;xxo;", 1, 20);

    says(6, "BAD (no PICTURE, too).");
    withoutPicture("flip(0, 0)", o -> o.flip(0, 0), BAD);
    edges("x", 0, 3, (o, v) -> o.flip(v, 0));
    edges("y", 0, 2, (o, v) -> o.flip(0, v));
    refused("flip(8, 0) of 8", () -> of(DARKEST), o -> o.flip(8, 0), BAD);
    refused("flip(0, 8) of 8", () -> of(DARKEST), o -> o.flip(0, 8), BAD);
  }

  private static void frames() {
    says(7, "All DOTS x to x2, y to y2 are DARK (v = 1), light (0), turned (2): how many are DARK in the PICTURE.");
    DotOutlines d = of("d43;xooo;ooxo;ooox;");
    due("turned", d.frame(1, 0, 2, 1, 2) + dots(d), "5xxxo;oxoo;ooox;");
    due("dark, too", d.frame(0, 0, 1, 0, 1) + dots(d), "5xxxo;oxoo;ooox;");
    due("dark", d.frame(0, 0, 0, 2, 1) + dots(d), "7xxxo;xxoo;xoox;");
    due("light", d.frame(1, 1, 3, 2, 0) + dots(d), "5xxxo;xooo;xooo;");
    due("one dot", d.frame(3, 2, 3, 2, 1) + dots(d), "6xxxo;xooo;xoox;");
    due("all, dark", d.frame(0, 0, 3, 2, 1), 12);
    due("all, turned", d.frame(0, 0, 3, 2, 2), 0);
    due("all, light as they are", d.frame(0, 0, 3, 2, 0), 0);
    DotOutlines great = of(LIGHTEST);
    due("the greatest", great.frame(0, 0, 7, 7, 2), 64);
    due("its last column", great.frame(7, 0, 7, 7, 0), 56);
    due("its last row", great.frame(0, 7, 7, 7, 0) + great.dot(6, 7) + great.dot(6, 6), 50);
    changed("a frame", o -> o.frame(1, 1, 2, 2, 2), "d33;xxx;xxo;xox;", 1, 20);
    changed("a light frame", o -> o.frame(0, 0, 2, 2, 0), "d33;ooo;ooo;ooo;", 1, 20);

    says(7, "BAD (no PICTURE, too; x2 less than x, y2 less than y).");
    withoutPicture("frame(0, 0, 0, 0, 1)", o -> o.frame(0, 0, 0, 0, 1), BAD);
    edges("x", 0, 3, (o, v) -> o.frame(v, 0, 3, 0, 2));
    edges("y", 0, 2, (o, v) -> o.frame(0, v, 0, 2, 2));
    // just as much as x, y, and just less
    edges("x2", 1, 3, (o, v) -> o.frame(1, 0, v, 0, 2));
    edges("y2", 1, 2, (o, v) -> o.frame(0, 1, 0, v, 2));
    edges("x2 from 0", 0, 3, (o, v) -> o.frame(0, 0, v, 0, 1));
    edges("y2 from 0", 0, 2, (o, v) -> o.frame(0, 0, 0, v, 1));
    edges("v", 0, 2, (o, v) -> o.frame(0, 0, 3, 2, v));
  }

  private static void tellings() {
    says(8, "JOINED is v (0, 1): what it was.");
    DotOutlines d = of(PAIR);
    due("0 to 0", d.joined(0) + " " + d.count(2) + " " + d.borders(), "0 0 2");
    due("0 to 1", d.joined(1) + " " + d.count(2) + " " + d.borders(), "0 1 1");
    due("1 to 1", d.joined(1) + " " + d.count(2) + " " + d.borders(), "1 1 1");
    due("1 to 0", d.joined(0) + " " + d.count(2) + " " + d.borders(), "1 0 2");
    changed("JOINED of 0", o -> o.joined(0), PINCH, 0, 20);
    changed("JOINED as it was", o -> o.joined(1), PINCH, 1, 20);

    says(8, "BAD; STATE: no PICTURE (ahead of BAD).");
    for (int v : new int[] {0, 1, -1, 2}) withoutPicture("joined(" + v + ")", o -> o.joined(v), STATE);
    edges("v", 0, 1, (o, v) -> o.joined(v));

    says(9, "SHARP is v (1 to 32): what it was.");
    DotOutlines s = of(HALF);
    due("8 to 1", s.sharp(1) + " " + s.count(3) + " " + s.best(0, 2), "8 1 4");
    due("1 to 32", s.sharp(32) + " " + s.count(3) + " " + s.best(0, 2), "1 32 3");
    due("32 to 32", s.sharp(32) + " " + s.count(3), "32 32");
    due("32 to 31", s.sharp(31) + " " + s.count(3), "32 31");
    changed("SHARP of 1", o -> o.sharp(1), PINCH, 1, 1);

    says(9, "BAD; STATE: no PICTURE (ahead of BAD).");
    for (int v : new int[] {1, 32, 0, 33}) withoutPicture("sharp(" + v + ")", o -> o.sharp(v), STATE);
    edges("v", 1, 32, (o, v) -> o.sharp(v));
  }

  // ---- promises 10 to 14: dots, borders

  private static void dotPromises() {
    says(10, "Whether a DOT is DARK (1, 0).");
    DotOutlines d = of("d43;xoox;oooo;ooox;");
    due("the corners", d.dot(0, 0) + " " + d.dot(3, 0) + " " + d.dot(0, 2) + " " + d.dot(3, 2), "1 1 0 1");
    due("the last dot of all", of(DARKEST).dot(7, 7), 1);

    says(10, "BAD (no PICTURE, too).");
    withoutPicture("dot(0, 0)", o -> o.dot(0, 0), BAD);
    edges("x", 0, 3, (o, v) -> o.dot(v, 0));
    edges("y", 0, 2, (o, v) -> o.dot(0, v));
    due("dot(8, 0) of 8", of(DARKEST).dot(8, 0), BAD);
    due("dot(0, 8) of 8", of(DARKEST).dot(0, 8), BAD);

    says(11, "How many BORDERS there are.");
    due("none", of("d11;o;").borders(), 0);
    due("one", of(ONE).borders(), 1);
    due("the most", of(BOARD).borders(), 32);
    DotOutlines c = of(BOARD);
    due("none once more", c.frame(0, 0, 7, 7, 0) + " " + c.borders() + " " + c.undo() + " " + c.borders(), "0 0 0 32");

    says(11, "STATE: no PICTURE.");
    withoutPicture("borders()", DotOutlines::borders, STATE);
  }

  private static void borderPromises() {
    says(12, "Of a BORDER: 0 LONG, 1 whether it is OUTER (1, 0), 2 AREA, 3 x, 4 y of its FIRST DOT, 5 how many of its steps turn"
        + " (are unlike the step ahead, round about).");
    due("the least", line(6, k -> of(ONE).border(0, k)), "4 1 1 0 0 4");
    due("the greatest", line(6, k -> of(DARKEST).border(0, k)), "32 1 64 0 0 4");
    due("an inner one", line(6, k -> of(NESTED).border(1, k)), "24 0 36 1 1 4");
    due("the last one", line(6, k -> of(NESTED).border(3, k)), "8 0 4 3 3 4");
    // the first step is unlike the last one
    due("all turn", line(6, k -> of(PLUS).border(0, k)), "12 1 5 1 0 12");
    due("some turn", line(6, k -> of(PINCH).border(0, k)), "16 1 7 0 0 10");

    says(12, "BAD (no PICTURE, too).");
    withoutPicture("border(0, 0)", o -> o.border(0, 0), BAD);
    edges("border", 0, 1, (o, v) -> o.border(v, 0));
    edges("what", 0, 5, (o, v) -> o.border(1, v));
    refused("border(0, 0) of none", () -> of(LIGHTEST), o -> o.border(0, 0), BAD);
    refused("border(2, 0) of two", () -> of(PAIR), o -> o.border(2, 0), BAD);
    due("border(31, 0) of the most", of(BOARD).border(31, 0), 4);
    due("border(32, 0) of the most", of(BOARD).border(32, 0), BAD);

    says(13, "CORNER k (0 on, round about) of a BORDER: 0 x, 1 y, 2 whither the step from it goes.");
    due("the first", line(3, k -> busy().corner(0, 0, k)), "1 0 0");
    due("the last", line(3, k -> busy().corner(0, 13, k)), "1 1 3");
    due("round about", line(3, k -> busy().corner(0, 14, k)), "1 0 0");
    due("of the next border", line(3, k -> busy().corner(1, 0, k)), "2 1 0");
    due("of the next border, the last", line(3, k -> busy().corner(1, 3, k)), "2 2 3");
    due("of the next border, round about", line(3, k -> busy().corner(1, 4, k)), "2 1 0");

    says(13, "BAD (no PICTURE, too; k below 0).");
    withoutPicture("corner(0, 0, 0)", o -> o.corner(0, 0, 0), BAD);
    edges("border", 0, 1, (o, v) -> o.corner(v, 0, 0));
    edges("k", 0, HIGH, (o, v) -> o.corner(0, v, 0));
    edges("what", 0, 2, (o, v) -> o.corner(0, 0, v));

    says(14, "Whether a DOT is INSIDE of a BORDER (1, 0).");
    due("the outer one", insides(busy(), 0), "oxxx;xxxx;xxxx;");
    due("the inner one", insides(busy(), 1), "oooo;ooxo;oooo;");

    says(14, "BAD (no PICTURE, too).");
    withoutPicture("inside(0, 0, 0)", o -> o.inside(0, 0, 0), BAD);
    edges("border", 0, 1, (o, v) -> o.inside(v, 0, 0));
    edges("x", 0, 3, (o, v) -> o.inside(0, v, 0));
    edges("y", 0, 2, (o, v) -> o.inside(0, 0, v));
  }

  // ---- promises 15 to 17: straight

  private static void straightPromises() {
    says(15, "Whether a STRETCH of s steps from CORNER i (0 to LONG less 1) is STRAIGHT (1, 0).");
    due("from the last corner", line(13, k -> busy().straight(0, 13, 1 + k)), "1 0 0 0 0 0 0 0 0 0 0 0 0");
    due("from (0,2), round the end", line(13, k -> busy().straight(0, 11, 1 + k)), "1 0 1 0 0 0 0 0 0 0 0 0 0");
    due("from the first corner", line(13, k -> busy().straight(0, 0, 1 + k)), "1 1 1 0 0 0 0 0 0 0 0 0 0");

    says(15, "BAD (no PICTURE, too).");
    withoutPicture("straight(0, 0, 1)", o -> o.straight(0, 0, 1), BAD);
    edges("border", 0, 1, (o, v) -> o.straight(v, 0, 1));
    edges("i", 0, 13, (o, v) -> o.straight(0, v, 1));
    edges("s", 1, 13, (o, v) -> o.straight(0, 0, v));
    edges("i of the shorter one", 0, 3, (o, v) -> o.straight(1, v, 1));
    edges("s of the shorter one", 1, 3, (o, v) -> o.straight(1, 0, v));

    says(16, "OFF of a STRETCH of s steps from CORNER i; NONE: it is not STRAIGHT.");
    due("from (0,2), round the end", line(4, k -> busy().off(0, 11, 1 + k)), "0 " + NONE + " 2 " + NONE);
    due("from the first corner", line(4, k -> busy().off(0, 0, 1 + k)), "0 0 0 " + NONE);
    due("one step less than round", busy().off(0, 13, 13), NONE);
    due("from the last corner", busy().off(1, 3, 1), 0);

    says(16, "BAD (no PICTURE, too).");
    withoutPicture("off(0, 0, 1)", o -> o.off(0, 0, 1), BAD);
    edges("border", 0, 1, (o, v) -> o.off(v, 0, 1));
    edges("i", 0, 13, (o, v) -> o.off(0, v, 1));
    edges("s", 1, 13, (o, v) -> o.off(0, 0, v));

    says(17, "How many steps the longest STRAIGHT STRETCH from CORNER i has.");
    due("two borders", line(14, k -> busy().longest(0, k)) + ", " + line(4, k -> busy().longest(1, k)), "3 2 1 3 2 1 4 3 2 1 2 3 3 1, 1 1 1 1");
    // 3 steps are straight, 4, 5, 6 not, 7 are
    due("behind shorter ones that are not straight", of(SLOPE).longest(0, 0), 7);
    due("the longest along an edge", of(DARKEST).longest(0, 24), 8);
    due("the longest of all", of(STAIRS).longest(0, 0), 12);

    says(17, "BAD (no PICTURE, too).");
    withoutPicture("longest(0, 0)", o -> o.longest(0, 0), BAD);
    edges("border", 0, 1, (o, v) -> o.longest(v, 0));
    edges("i", 0, 13, (o, v) -> o.longest(0, v));
    edges("i of the shorter one", 0, 3, (o, v) -> o.longest(1, v));
  }

  // ---- promises 18 to 21: polygons

  private static void bestPromises() {
    says(18, "Of BEST of a BORDER: 0 how many VERTICES, 1 OFF of all its STRETCHES, 2 how many VERTICES are SHARP, 3 AREA, twice"
        + " (of the POLYGON as a figure, without a sign).");
    due("the least", line(4, k -> of(ONE).best(0, k)), "4 0 4 2");
    due("the greatest", line(4, k -> of(DARKEST).best(0, k)), "4 0 4 128");
    due("of the outer one", line(4, k -> busy().best(0, k)), "5 2 4 22");
    due("of the inner one", line(4, k -> busy().best(1, k)), "4 0 4 2");
    due("none round", line(4, k -> sharp(HALF, 5).best(0, k)), "4 2 4 6");
    due("one round", line(4, k -> sharp(HALF, 6).best(0, k)), "4 2 3 6");
    due("the first corner is no vertex", line(4, k -> of("d84;oooooooo;" + ROOF.substring(4)).best(0, k)), "5 32 3 32");
    DotOutlines backwards = of(NESTED);
    due("from the last border on", line(4, k -> backwards.best(3 - k, 3)), "8 32 72 128");
    due("and once more", line(4, k -> backwards.best(k, 3)), "128 72 32 8");

    says(18, "BAD (no PICTURE, too).");
    withoutPicture("best(0, 0)", o -> o.best(0, 0), BAD);
    edges("border", 0, 1, (o, v) -> o.best(v, 0));
    edges("what", 0, 3, (o, v) -> o.best(0, v));
    refused("best(0, 0) of none", () -> of(LIGHTEST), o -> o.best(0, 0), BAD);

    says(19, "VERTEX k (0 on) of BEST: 0 the number of its CORNER, 1 its TURN, 2 whether it is SHARP (1, 0).");
    due("corners", vertices(busy(), 0, 0) + ", " + vertices(busy(), 1, 0), "0 3 6 10 11, 0 1 2 3");
    // at (1,0) (4,0) (4,3) (0,3) (0,2): 48 by 5, 72 by 6, 96 by 7, 32 by 5, 8 by 3
    due("TURNS", vertices(busy(), 0, 1), "9 12 13 6 2");
    due("SHARP", vertices(busy(), 0, 2) + ", " + vertices(busy(), 1, 2), "1 1 1 1 0, 1 1 1 1");

    says(19, "BAD (no PICTURE, too; k not 0 to as many less 1).");
    withoutPicture("vertex(0, 0, 0)", o -> o.vertex(0, 0, 0), BAD);
    edges("border", 0, 1, (o, v) -> o.vertex(v, 0, 0));
    edges("k", 0, 4, (o, v) -> o.vertex(0, v, 0));
    edges("k of the other one", 0, 3, (o, v) -> o.vertex(1, v, 0));
    edges("what", 0, 2, (o, v) -> o.vertex(0, 0, v));

    says(20, "The fewest CORNERS of a POLYGON that has CORNER i.");
    due("each corner", line(8, k -> of(HALF).past(0, k)), "4 4 5 4 5 4 4 6");
    due("along an edge", line(8, k -> of("d31;xxx;").past(0, k)), "4 5 5 4 4 5 5 4");
    due("the least", line(4, k -> of(ONE).past(0, k)), "4 4 4 4");
    due("the inner one", line(4, k -> busy().past(1, k)), "4 4 4 4");

    says(20, "BAD (no PICTURE, too).");
    withoutPicture("past(0, 0)", o -> o.past(0, 0), BAD);
    edges("border", 0, 1, (o, v) -> o.past(v, 0));
    edges("i", 0, 13, (o, v) -> o.past(0, v));
    edges("i of the shorter one", 0, 3, (o, v) -> o.past(1, v));
  }

  private static void pointPromises() {
    says(21, "Point i (1 to 3) of the three that OUTLINE has at VERTEX k, that is ROUND: 32 times its x (what = 0), its y (1);"
        + " NONE: it is SHARP.");
    // u (0,3), v (0,2), w (1,0): it is the last vertex, so w is the first one
    due("x", line(3, k -> busy().point(0, 4, 1 + k, 0)), "1 4 9");
    due("y", line(3, k -> busy().point(0, 4, 1 + k, 1)), "71 60 47");
    due("SHARP ones", line(4, k -> busy().point(0, k, 1, 0)), NONE + " " + NONE + " " + NONE + " " + NONE);
    due("TURN of SHARP", sharp(HALF, 5).point(0, 0, 1, 0), NONE);
    due("TURN of SHARP less one", sharp(HALF, 6).point(0, 0, 1, 0), 24);

    says(21, "BAD (no PICTURE, too).");
    withoutPicture("point(0, 0, 1, 0)", o -> o.point(0, 0, 1, 0), BAD);
    edges("border", 0, 1, (o, v) -> o.point(v, 0, 1, 0));
    edges("k", 0, 4, (o, v) -> o.point(0, v, 1, 0));
    edges("i of a ROUND one", 1, 3, (o, v) -> o.point(0, 4, v, 0));
    edges("i of a SHARP one", 1, 3, (o, v) -> o.point(0, 0, v, 0));
    edges("what of a ROUND one", 0, 1, (o, v) -> o.point(0, 4, 1, v));
    edges("what of a SHARP one", 0, 1, (o, v) -> o.point(0, 0, 1, v));
  }

  // ---- promises 22 to 25: filled again

  private static void filledPromises() {
    says(22, "Whether a DOT is FILLED by a BORDER, by kind 0, 1 (1, 0).");
    for (int kind = 0; kind < 2; kind++) {
      due("the outer one", filled(busy(), 0, kind), "oxxx;xxxx;xxxx;");
      due("the inner one", filled(busy(), 1, kind), "oooo;ooxo;oooo;");
    }
    due("kinds apart", filled(sharp(ROOF, 32), 0, 0) + " " + filled(sharp(ROOF, 32), 0, 1), "oooxxooo;oxxxxxxo;xxxxxxxx; oooooooo;oxxxxxxo;xxxxxxxx;");

    says(22, "BAD (no PICTURE, too).");
    withoutPicture("filled(0, 0, 0, 0)", o -> o.filled(0, 0, 0, 0), BAD);
    edges("border", 0, 1, (o, v) -> o.filled(v, 0, 0, 0));
    edges("kind", 0, 1, (o, v) -> o.filled(0, v, 0, 0));
    edges("x", 0, 3, (o, v) -> o.filled(0, 0, v, 0));
    edges("y", 0, 2, (o, v) -> o.filled(0, 1, 0, v));

    says(23, "How many DOTS are FILLED by a BORDER and not INSIDE, or INSIDE and not FILLED.");
    due("none", line(2, k -> busy().differ(k, 0)) + " " + line(2, k -> busy().differ(k, 1)), "0 0 0 0");
    due("INSIDE and not FILLED, from SHARP 17 on", sharp(ROOF, 16).differ(0, 1) + " " + sharp(ROOF, 17).differ(0, 1), "0 2");
    due("FILLED and not INSIDE, from SHARP 17 on", sharp(VALLEY, 16).differ(0, 1) + " " + sharp(VALLEY, 17).differ(0, 1), "0 2");
    due("both", sharp("d78;oxxxooo;xxxxooo;xxxoooo;xxxoooo;xxxxooo;oxxxxxo;oxxxxxx;oxxxxxx;", 32).differ(0, 1), 2);
    due("by BEST", sharp(ROOF, 32).differ(0, 0) + " " + sharp(VALLEY, 32).differ(0, 0), "0 0");

    says(23, "BAD (no PICTURE, too).");
    withoutPicture("differ(0, 0)", o -> o.differ(0, 0), BAD);
    edges("border", 0, 1, (o, v) -> o.differ(v, 0));
    edges("kind", 0, 1, (o, v) -> o.differ(0, v));
  }

  private static void togetherPromises() {
    says(24, "How many DOTS are DARK, but FILLED by an even number of BORDERS, or light, but by an odd one.");
    due("no borders", line(2, of(LIGHTEST)::wrong), "0 0");
    due("one to four borders over each other", line(2, of(NESTED)::wrong), "0 0");
    due("32 borders", line(2, of(BOARD)::wrong), "0 0");
    due("dark, but by none", line(2, sharp(ROOF, 17)::wrong), "0 2");
    due("light, but by one", line(2, sharp(VALLEY, 17)::wrong), "0 2");
    due("SHARP as much as TURN", line(2, sharp(ROOF, 16)::wrong) + " " + line(2, sharp(VALLEY, 16)::wrong), "0 0 0 0");

    says(24, "BAD; STATE: no PICTURE (ahead of BAD).");
    for (int v : new int[] {0, 1, -1, 2}) withoutPicture("wrong(" + v + ")", o -> o.wrong(v), STATE);
    edges("kind", 0, 1, (o, v) -> o.wrong(v));

    says(25, "CORNERS of all BORDERS (what = 0), VERTICES of all (1), SHARP ones (2), together.");
    due("none", line(3, of(LIGHTEST)::all), "0 0 0");
    due("one", line(3, of(HALF)::all), "8 4 3");
    due("two", line(3, busy()::all), "18 9 8");
    due("rings in rings", line(3, of(NESTED)::all), "80 16 16");
    due("the most", line(3, of(BOARD)::all), "128 128 128");

    says(25, "BAD; STATE: no PICTURE (ahead of BAD).");
    for (int v : new int[] {0, 2, -1, 3}) withoutPicture("all(" + v + ")", o -> o.all(v), STATE);
    edges("what", 0, 2, (o, v) -> o.all(v));
  }

  // ---- promises 26 to 28: images, counts

  private static void images() {
    says(26, "An IMAGE (0, 1) is kept of the PICTURE, JOINED, SHARP: 1.");
    DotOutlines d = of("d21;xo;");
    d.joined(1);
    d.sharp(32);
    due("image 0", d.image(0) + " " + counts(d), "1 2 1 1 32 2 0");
    d.flip(1, 0);
    d.sharp(1);
    due("image 1", d.image(1), 1);
    read(d, "d11;o;");
    due("image 0 again", d.restore(0) + " " + dots(d) + counts(d), "1 xo;2 1 1 32 0 0");
    due("image 1 again", d.restore(1) + " " + dots(d) + counts(d), "1 xx;2 2 1 1 0 0");
    d.flip(0, 0);
    due("image 0 in place of the first one", d.image(0) + " " + d.restore(1) + " " + dots(d) + d.restore(0) + " " + dots(d), "1 1 xx;1 ox;");

    says(26, "BAD; STATE: no PICTURE.");
    for (int v : new int[] {0, 1}) withoutPicture("image(" + v + ")", o -> o.image(v), STATE);
    for (int v : new int[] {-1, 2, LOW, HIGH}) withoutPicture("image(" + v + ")", o -> o.image(v), BAD);
    edges("k", 0, 1, (o, v) -> o.image(v));

    says(27, "All is as an IMAGE kept it (no ACT can be undone then): 1.");
    DotOutlines r = busy();
    due("a smaller picture", r.restore(1) + " " + dots(r) + counts(r), "1 xo;2 1 0 8 0 2");
    due("undo", r.undo() + " " + dots(r), STATE + " xo;");
    due("its borders", r.borders() + " " + corners(r, 0), "1 00 10 11 01");
    changed("restore", o -> o.restore(0), PINCH, 0, 8);
    r.frame(0, 0, 1, 0, 2);
    r.sharp(1);
    due("once more", r.restore(1) + " " + dots(r) + counts(r), "1 xo;2 1 0 8 0 2");
    due("the tape stays", read(r, "2;x;o;") + " " + dots(r), "1 x;o;");
    DotOutlines f = full();
    due("eight acts", f.count(4) + " " + f.restore(0) + " " + counts(f), "8 1 12 10 0 8 0 90");

    says(27, "BAD; STATE: none was kept.");
    for (int v : new int[] {0, 1}) withoutPicture("restore(" + v + ")", o -> o.restore(v), STATE);
    for (int v : new int[] {-1, 2, LOW, HIGH}) withoutPicture("restore(" + v + ")", o -> o.restore(v), BAD);
    for (int v : new int[] {-1, 2, LOW, HIGH}) beyond("k", v, (o, k) -> o.restore(k));
    refused("the one that was not kept", EdgeTests::busy, o -> o.restore(0), STATE);
    due("the one that was kept", busy().restore(1), 1);
  }

  private static void countPromises() {
    says(28, "How many: 0 DOTS there are, 1 DARK ones, 2 JOINED, 3 SHARP, 4 ACTS that can be undone, 5 bytes on the tape"
        + " (0 to 3: 0 without a PICTURE).");
    due("without a picture", counts(fresh()), "0 0 0 0 0 0");
    due("without a picture, with a tape", counts(faulty()), "0 0 0 0 0 2");
    due("with all", counts(busy()), "12 10 1 7 3 2");
    due("full", counts(full()), "12 10 0 8 8 90");
    due("the least", counts(of("d11;o;")), "1 0 0 8 0 0");
    due("the greatest", counts(of(DARKEST)), "64 64 0 8 0 0");

    says(28, "BAD.");
    for (int v : new int[] {-1, 6, LOW, HIGH}) withoutPicture("count(" + v + ")", o -> o.count(v), BAD);
    edges("what", 0, 5, (o, v) -> o.count(v));
  }

  // ---- the quotes against the document

  private static String plain(String text) {
    return text.replaceAll("```\\w*", " ").replaceAll("={8} \\d", " ").replace("`", "").replaceAll("\\s+", " ").trim();
  }

  // the words under a heading, without what only tells the interface's own headings or the call's face
  private static String section(String document, int where) {
    String heading = where == USE ? "## What it is" : where == TERMS ? "## Terms" : "## Promise " + where + ":";
    int from = document.indexOf(heading), to = document.indexOf("\n## ", from + 1);
    String text = document.substring(document.indexOf('\n', from), to < 0 ? document.length() : to);
    if (where == TERMS) text = text.substring(0, text.indexOf("Ahead of the calls"));
    if (where > TERMS) text = text.substring(text.indexOf("`: ") + 3);
    return plain(text);
  }

  private static void heldAgainstTheDocument() throws IOException {
    Path path = Path.of("../shared/DOC.md");
    if (!Files.exists(path)) {
      System.out.println("the quotes are not held against the document: there is none");
      return;
    }
    String document = Files.readString(path);
    for (int where = USE; where <= 28; where++) {
      String text = section(document, where);
      boolean[] told = new boolean[text.length()];
      for (Quote quote : quotes) {
        if (quote.where != where) continue;
        now = quote;
        int at = text.indexOf(quote.words);
        if (at < 0) miss("the document does not say so");
        else for (int k = at; k < at + quote.words.length(); k++) told[k] = true;
      }
      StringBuilder untold = new StringBuilder();
      for (int k = 0; k < told.length; k++) if (!told[k]) untold.append(text.charAt(k));
      now = new Quote(where, "the whole");
      if (where != USE && !untold.toString().isBlank()) miss("without a test: " + untold.toString().trim());
    }
  }

  public static void main(String[] args) throws IOException {
    use(); numbers(); orderOfRefusals(); nothingChanged(); pictures(); tape(); readAnew(); faults(); rest(); walks();
    turnedInRest(); longs(); stretches(); polygons(); turns(); outlines(); acts();
    toldPromises(); faultPromises(); flips(); frames(); tellings(); dotPromises(); borderPromises(); straightPromises();
    bestPromises(); pointPromises(); filledPromises(); togetherPromises(); images(); countPromises();
    heldAgainstTheDocument();
    System.out.println(wrong == 0 ? asked + " answers are as due, by " + quotes.size() + " sentences" : wrong + " of " + asked + " answers are not as due");
    if (wrong != 0) System.exit(1);
  }
}
