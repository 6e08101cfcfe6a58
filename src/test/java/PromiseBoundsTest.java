/** Each promise at its bounds: the last number taken and the first refused on either side, the page without PARTS, the page with 30. Answers are worked out by hand. */
public final class PromiseBoundsTest extends Checks {
  private static final int STUCK = 1000000000;
  private static final String[] NO_PARTS = {"LEAST", "-1", "5", "6", "30", "MOST"};
  private static final String[] NO_PLANES = {"LEAST", "-1", "12", "13", "14", "62", "MOST"};
  private static final String[] NO_STEPS = {"LEAST", "-1", "17", "MOST"};
  private static final String[] WIDE = {"width(1000)"};

  private static void takenEach(String[] scene, int want, String... calls) {
    for (String call : calls) taken(scene, call, want);
  }

  /** Puts each word in the place of # and expects the refusal. */
  private static void refusedWith(String[] scene, int why, String pattern, String... words) {
    for (String word : words) refused(scene, pattern.replace("#", word), why);
  }

  private static void newObject() {
    sentence("`RisingPage()`: A PAGE of WIDTH 200, without PARTS.");
    takenEach(EMPTY, 200, "count(0)", "width(200)", "width(1)", "place(0, 200, 0, 0)", "place(1, 200, 8, 1)");
    takenEach(EMPTY, 0, "count(1)", "count(2)", "count(4)");
    taken(EMPTY, "count(3)", 1);
    for (int what = 11; what <= 16; what++) taken(EMPTY, "count(" + what + ")", 0);
    taken(EMPTY, "tolerance(0)", 2);
    refused(EMPTY, "place(0, 201, 0, 0)", -6);
    refused(EMPTY, "partOf(0, 0)", -1);
    // Another object's calls are not its own.
    TextPage other = page(STANDING);
    other.ask("tolerance(9)");
    due(page(), "count(1)", 0);
    due(page(), "tolerance(2)", 2);
  }

  private static void withoutParts(String[] scene, int made) {
    for (int step = 0; step <= 16; step++) takenEach(scene, 0, "out(" + step + ")", "tall(" + step + ")", "meet(0, 1, " + step + ")");
    takenEach(scene, -9, "meets(0)", "meets(1)", "meets(2)");
    takenEach(scene, 0, "greatest()", "even(0)", "even(29)", "count(2)", "count(4)");
    taken(scene, "count(3)", 1);
    taken(scene, "count(1)", made);
    taken(scene, "width(300)", 200);
    taken(scene, "tolerance(3)", 2);
    taken(scene, "place(1, 100, 16, 0)", -100);
    refusedEach(scene, -1, "free(0)", "hinge(0, true, 1)", "crease(0, 0, 0)", "place(2, 0, 0, 0)", "miss(0, 0)", "stuck(0)",
      "meet(0, 2, 0)", "meet(2, 3, 0)", "move(0, 0)", "find(0, true, 0, 0, 0, 0)", "partOf(" + made + ", 0)", "partOf(30, 0)",
      "part(0, 2, 0, 0, 0, 1, 1, true)");
    refusedEach(scene, -2, "meets(3)", "place(0, 0, 0, 2)");
  }

  private static void pagesWithoutParts() {
    sentence("A PAGE of WIDTH 200, without PARTS.");
    withoutParts(EMPTY, 0);
    taken(EMPTY, "part(0, 0, 0, 1, 0, 1, 1, true)", 0);
    sentence("A PART is FREE (taken out)");
    String[] gone = scene("part(1, 0, 150, 1, 150, 0, 0, false)", "part(0, 2, 9, 3, 9, 5, 5, true)", "free(1)", "free(0)");
    withoutParts(gone, 2);
    taken(gone, "part(0, 0, 0, 1, 0, 1, 1, true)", 2);
    takenEach(gone, 150, "partOf(0, 2)", "partOf(0, 4)", "partOf(0, 5)", "partOf(0, 6)");
  }

  private static void fullPage() {
    sentence("30 PARTS in all, those that were taken out, too");
    taken(FULL, "count(1)", 30);
    taken(FULL, "count(2)", 29);
    refusedEach(FULL, -6, "part(0, 0, 0, 1, 0, 1, 1, true)", "part(1, 0, 1, 1, 1, 0, 0, true)", "part(2, 60, 20, 61, 20, 1, 0, true)");
    taken(FULL, "free(29)", 1);
    refused(with(FULL, "free(29)"), "part(0, 0, 0, 1, 0, 1, 1, true)", -6);
    taken(FULL, "hinge(29, true, 10)", 9);
    taken(FULL, "crease(29, 0, 0)", 29);
    takenEach(FULL, -9, "crease(29, 8, 0)", "crease(29, 8, 1)", "place(60, 20, 8, 0)", "place(61, 20, 8, 1)");
    taken(FULL, "partOf(29, 2)", 9);
    taken(FULL, "stuck(29)", -9);
    taken(FULL, "find(29, false, 9, 8, -9, 0)", 9);
    taken(FULL, "meet(60, 61, 8)", 0);
    refusedEach(FULL, -1, "free(30)", "hinge(30, true, 1)", "crease(30, 0, 0)", "miss(30, 0)", "stuck(30)", "move(30, 0)",
      "find(30, true, 0, 0, 0, 0)", "partOf(30, 0)", "place(62, 0, 0, 0)", "meet(61, 62, 0)", "meet(62, 61, 0)");
    taken(FULL, "even(30)", 0);
    // 29 that are stuck at every step, and a last one whose second flat goes from 0, 8 to 5, -1 at step 8, and is stuck at others.
    String[] last = new String[30];
    for (int n = 0; n < 29; n++) last[n] = "part(0, 0, 0, 1, 200, 1, 2, true)";
    last[29] = "part(0, 0, 6, 1, 8, 1, 10, true)";
    taken(last, "meets(0)", 8);
    taken(last, "meets(1)", 0);
    taken(last, "meets(2)", 61);
    taken(last, "tall(8)", -1);
    taken(last, "count(4)", 30);
    taken(last, "count(3)", 1);
    taken(last, "out(0)", 0);
    taken(last, "greatest()", 0);
    // The first and the last part, each on the one before it: the last is stuck with the first.
    String[] chain = new String[30];
    for (int n = 0; n < 30; n++) chain[n] = "part(0, " + 2 * n + ", 9, " + (2 * n + 1) + ", 9, 20, 20, true)";
    taken(chain, "count(4)", 0);
    taken(with(chain, "hinge(0, true, 60)"), "count(4)", 30);
    taken(with(chain, "hinge(0, true, 60)"), "stuck(29)", 0);
    refused(chain, "free(28)", -3);
    taken(chain, "partOf(28, 9)", 1);
    taken(chain, "partOf(29, 9)", 0);
  }

  private static void width() {
    sentence("WIDTH of a PAGE without PARTS that are there: what it was. -3 there are; -4; -6.");
    taken(EMPTY, "width(1)", 200);
    taken(scene("width(1)"), "width(1000)", 1);
    taken(scene("width(1000)"), "width(1000)", 1000);
    refusedEach(EMPTY, -4, "width(0)", "width(LEAST)");
    refusedEach(EMPTY, -6, "width(1001)", "width(MOST)");
    taken(scene("width(0)", "width(1001)"), "count(0)", 200);
    String[] one = scene("part(0, 0, 1, 1, 1, 1, 1, true)");
    refusedEach(one, -3, "width(1)", "width(200)", "width(1000)", "width(0)", "width(LEAST)", "width(1001)", "width(MOST)");
    refusedEach(FULL, -3, "width(300)");
    taken(with(one, "free(0)"), "width(300)", 200);
    refused(with(one, "free(0)"), "width(0)", -4);
    refused(with(one, one[0], "free(0)"), "width(300)", -3);
    taken(with(one, "free(0)", "width(300)"), "place(0, 300, 0, 0)", 300);
  }

  private static void tolerance() {
    sentence("y at most TOL (0 .. 100, 2 at first)");
    taken(EMPTY, "tolerance(0)", 2);
    taken(scene("tolerance(0)"), "tolerance(100)", 0);
    taken(scene("tolerance(100)"), "tolerance(100)", 100);
    taken(STANDING, "tolerance(99)", 2);
    refusedEach(EMPTY, -4, "tolerance(-1)", "tolerance(LEAST)");
    refusedEach(EMPTY, -6, "tolerance(101)", "tolerance(MOST)");
    taken(scene("tolerance(0)", "tolerance(-1)", "tolerance(101)"), "tolerance(1)", 0);
  }

  private static void partPlanesAndKinds() {
    sentence("-1 p or q is no PLANE that is there, or they are one; -2 KIND");
    refusedWith(STANDING, -1, "part(0, #, 0, 0, 0, 1, 1, true)", NO_PLANES);
    refusedWith(STANDING, -1, "part(0, 0, 0, #, 0, 1, 1, true)", NO_PLANES);
    refusedWith(STANDING, -1, "part(0, #, 0, #, 1, 1, 1, true)", "0", "1", "2", "11");
    takenEach(STANDING, 6, "part(0, 0, 0, 1, 0, 1, 1, true)", "part(0, 1, 0, 0, 0, 1, 1, true)", "part(0, 11, 0, 10, 0, 1, 1, true)",
      "part(1, 2, 1, 11, 1, 0, 0, true)", "part(2, 0, 1, 1, 1, 1, 0, true)");
    refusedWith(STANDING, -2, "part(#, 0, 1, 1, 1, 1, 1, true)", "LEAST", "-1", "3", "MOST");
  }

  private static void partLeast() {
    sentence("-4 a or b below 0, c (BEND, STRAP), d (BEND) below 1");
    takenEach(EMPTY, 0, "part(0, 0, 0, 1, 5, 1, 1, true)", "part(0, 0, 5, 1, 0, 1, 1, true)", "part(2, 0, 0, 1, 5, 1, 0, true)",
      "part(2, 0, 5, 1, 0, 1, 0, true)");
    for (String low : new String[] {"-1", "LEAST"}) {
      for (int kind = 0; kind <= 2; kind++) {
        refused(EMPTY, "part(" + kind + ", 0, " + low + ", 1, 5, 1, 1, true)", -4);
        refused(EMPTY, "part(" + kind + ", 0, 5, 1, " + low + ", 1, 1, true)", -4);
      }
    }
    for (String low : new String[] {"0", "-1", "LEAST"}) {
      refused(EMPTY, "part(0, 0, 5, 1, 5, " + low + ", 1, true)", -4);
      refused(EMPTY, "part(2, 0, 5, 1, 5, " + low + ", 1, true)", -4);
      refused(EMPTY, "part(0, 0, 5, 1, 5, 1, " + low + ", true)", -4);
    }
    sentence("A BOX with a or b 0: -4, too.");
    refusedEach(EMPTY, -4, "part(1, 0, 0, 1, 5, 1, 1, true)", "part(1, 0, 5, 1, 0, 1, 1, true)", "part(1, 0, 0, 1, 0, 1, 1, true)");
    taken(EMPTY, "part(1, 0, 1, 1, 1, 1, 1, true)", 0);
  }

  private static void partGreatest() {
    sentence("-6 a, b above the PLANE's SIZE, c, d above 1000, 30 PARTS.");
    int[] sizes = {200, 200, 120, 120, 60, 80, 55, 55, 50, 60, 1, 2};
    for (int plane = 0; plane < sizes.length; plane++) {
      int leaf = plane == 0 ? 1 : 0;
      int size = sizes[plane];
      for (String over : new String[] {"" + (size + 1), "MOST"}) {
        for (int kind = 0; kind <= 2; kind++) {
          refused(STANDING, "part(" + kind + ", " + plane + ", " + over + ", " + leaf + ", 5, 5, 5, true)", -6);
          refused(STANDING, "part(" + kind + ", " + leaf + ", 5, " + plane + ", " + over + ", 5, 5, true)", -6);
        }
      }
      for (int kind = 0; kind <= 1; kind++) {
        taken(STANDING, "part(" + kind + ", " + plane + ", " + size + ", " + leaf + ", 5, 5, 5, true)", 6);
        taken(STANDING, "part(" + kind + ", " + leaf + ", 5, " + plane + ", " + size + ", 5, 5, true)", 6);
      }
    }
    takenEach(EMPTY, 0, "part(0, 0, 5, 1, 5, 1000, 1, true)", "part(0, 0, 5, 1, 5, 1, 1000, true)", "part(2, 0, 5, 1, 5, 1000, 0, true)");
    for (String over : new String[] {"1001", "MOST"}) {
      refusedEach(EMPTY, -6, "part(0, 0, 5, 1, 5, " + over + ", 1, true)", "part(0, 0, 5, 1, 5, 1, " + over + ", true)",
        "part(2, 0, 5, 1, 5, " + over + ", 0, true)");
    }
    refused(FULL, "part(0, 0, 5, 1, 5, 1, 1, true)", -6);
    sentence("(c is not looked at for BOXES, d for BEND alone.)");
    for (String any : new String[] {"LEAST", "0", "1001", "MOST"}) {
      taken(EMPTY, "part(1, 0, 5, 1, 5, " + any + ", " + any + ", true)", 0);
      taken(EMPTY, "part(2, 0, 5, 1, 5, 1, " + any + ", true)", 0);
    }
  }

  private static void straps() {
    sentence("Then, of a STRAP: -3 A or B is STUCK at STEP 16, -6 d above 1000.");
    // Part 0 is stuck at step 16 alone, part 1 at step 0 alone.
    String[] scene = scene("part(0, 0, 200, 1, 199, 199, 199, true)", "part(0, 0, 10, 1, 10, 30, 31, true)");
    refusedEach(scene, -3, "part(2, 2, 1, 0, 1, 1, 0, true)", "part(2, 0, 1, 3, 1, 1, 0, true)", "part(2, 2, 1, 3, 1, 1, 0, true)",
      "part(2, 2, 0, 0, 0, 1000, 0, true)", "part(2, 2, 1, 4, 1, 1, 0, true)");
    takenEach(scene, 2, "part(2, 4, 1, 0, 1, 1, 0, true)", "part(2, 0, 1, 5, 1, 1, 0, true)", "part(0, 2, 1, 0, 1, 1, 1, true)",
      "part(1, 2, 1, 0, 1, 1, 1, true)");
    takenEach(WIDE, 0, "part(2, 0, 1000, 1, 1000, 1000, 0, true)", "part(2, 0, 501, 1, 500, 1, 0, true)");
    refusedEach(WIDE, -6, "part(2, 0, 1000, 1, 1000, 999, 0, true)", "part(2, 0, 1000, 1, 1000, 1, 0, true)",
      "part(2, 0, 501, 1, 501, 1, 0, true)", "part(2, 0, 500, 1, 502, 1, 0, true)");
    due(page(with(WIDE, "part(2, 0, 501, 1, 500, 1, 0, true)")), "partOf(0, 6)", 1000);
  }

  private static void free() {
    sentence("A PART is FREE: 1. -1; -3.");
    refusedWith(STANDING, -1, "free(#)", NO_PARTS);
    refusedEach(EMPTY, -1, "free(0)");
    refused(STANDING, "free(1)", -3);
    takenEach(STANDING, 1, "free(0)", "free(2)", "free(3)", "free(4)");
    taken(with(STANDING, "free(3)"), "free(1)", 1);
    refused(with(STANDING, "free(3)"), "free(3)", -1);
    // Hung on with its second plane alone, as the second plane of the other.
    String[] second = scene("part(1, 0, 9, 1, 9, 0, 0, true)", "part(0, 0, 1, 3, 1, 5, 5, true)");
    refused(second, "free(0)", -3);
    taken(second, "free(1)", 1);
    taken(with(second, "free(1)"), "free(0)", 1);
  }

  private static void hinge() {
    sentence("HINGE a (first true) or b of a PART becomes another DISTANCE; flats of BOXES follow, those of others stay: what it was. -1; -4 (of a BOX below 1); -6.");
    refusedWith(STANDING, -1, "hinge(#, true, 1)", NO_PARTS);
    refusedWith(STANDING, -1, "hinge(#, false, -1)", NO_PARTS);
    refusedEach(STANDING, -4, "hinge(0, true, -1)", "hinge(0, false, -1)", "hinge(2, true, LEAST)", "hinge(2, false, -1)",
      "hinge(1, true, 0)", "hinge(1, false, 0)", "hinge(1, true, -1)", "hinge(1, false, LEAST)");
    takenEach(STANDING, 100, "hinge(0, true, 0)", "hinge(0, false, 0)", "hinge(0, true, 200)", "hinge(0, false, 200)", "hinge(0, true, 100)");
    takenEach(STANDING, 50, "hinge(2, true, 0)", "hinge(2, true, 200)");
    takenEach(STANDING, 60, "hinge(2, false, 0)", "hinge(1, false, 1)", "hinge(1, false, 200)");
    takenEach(STANDING, 80, "hinge(1, true, 1)", "hinge(1, true, 200)");
    refusedWith(STANDING, -6, "hinge(0, true, #)", "201", "MOST");
    refusedEach(STANDING, -6, "hinge(0, false, 201)", "hinge(1, true, 201)", "hinge(1, false, 201)", "hinge(2, false, MOST)");
    // Part 3 hangs on plane 4, of size 60, and on a leaf.
    takenEach(STANDING, 30, "hinge(3, true, 60)", "hinge(3, true, 0)");
    refused(STANDING, "hinge(3, true, 61)", -6);
    taken(STANDING, "hinge(3, false, 200)", 40);
    hingeFlats();
  }

  private static void hingeFlats() {
    String[] box = with(STANDING, "hinge(1, true, 1)", "hinge(1, false, 200)");
    taken(box, "partOf(1, 5)", 200);
    taken(box, "partOf(1, 6)", 1);
    taken(box, "place(4, 200, 8, 1)", 200);
    taken(box, "place(5, 1, 8, 0)", 1);
    refused(box, "place(4, 201, 8, 1)", -6);
    refused(box, "place(5, 2, 8, 0)", -6);
    takenEach(box, 30, "partOf(3, 2)", "hinge(3, true, 200)");
    refused(box, "hinge(3, true, 201)", -6);
    String[] bend = with(STANDING, "hinge(0, true, 0)", "hinge(0, false, 1)");
    takenEach(bend, 120, "partOf(0, 5)", "partOf(0, 6)");
    String[] strap = with(STANDING, "hinge(2, true, 0)", "hinge(2, false, 200)");
    takenEach(strap, 55, "partOf(2, 5)", "partOf(2, 6)");
    taken(strap, "stuck(2)", 0);
  }

  private static void crease() {
    sentence("x (what 0) or y (1) of a PART's X at a STEP; 1000000000 if it is STUCK. Refused as told: -1; -2.");
    refusedWith(STANDING, -1, "crease(#, 0, 0)", NO_PARTS);
    refusedWith(STANDING, -1, "crease(0, #, 0)", NO_STEPS);
    refusedWith(STANDING, -2, "crease(0, 0, #)", "LEAST", "-1", "2", "MOST");
    refused(STANDING, "crease(4, 8, 2)", -2);
    taken(STANDING, "crease(1, 8, 0)", 80);
    taken(STANDING, "crease(1, 8, 1)", 60);
    taken(STANDING, "crease(1, 0, 0)", 140);
    takenEach(STANDING, 0, "crease(0, 16, 0)", "crease(0, 0, 1)");
    takenEach(STANDING, STUCK, "crease(4, 0, 0)", "crease(4, 16, 1)");
  }

  private static void place() {
    sentence("x (what 0) or y (1) of the place at a DISTANCE on a PLANE at a STEP; 1000000000 if it is STUCK. Refused as told: -1; -2; -4; -6.");
    refusedWith(STANDING, -1, "place(#, 0, 0, 0)", NO_PLANES);
    refusedWith(STANDING, -1, "place(0, 0, #, 0)", NO_STEPS);
    refusedWith(STANDING, -2, "place(4, 0, 0, #)", "LEAST", "-1", "2", "MOST");
    refusedWith(STANDING, -4, "place(4, #, 0, 0)", "LEAST", "-1");
    refusedWith(STANDING, -6, "place(4, #, 0, 0)", "61", "MOST");
    refusedWith(STANDING, -6, "place(#, 0, 0)", "5, 81", "6, 56", "7, 56", "8, 51", "9, 61", "0, 201", "1, 201");
    taken(STANDING, "place(4, 60, 8, 1)", 60);
    taken(STANDING, "place(5, 80, 8, 0)", 80);
    taken(STANDING, "place(4, 0, 8, 1)", 0);
    taken(STANDING, "place(1, 200, 16, 0)", -200);
    // Of a stuck part even where it begins; refused all the same beyond its size.
    takenEach(STANDING, STUCK, "place(10, 0, 0, 0)", "place(10, 1, 16, 1)", "place(11, 0, 8, 0)", "place(11, 2, 8, 1)");
    refusedEach(STANDING, -6, "place(10, 2, 0, 0)", "place(11, 3, 0, 0)");
    refused(STANDING, "place(10, -1, 0, 0)", -4);
  }

  private static void missAndStuck() {
    sentence("`int miss(int part, int step)`: MISS. -1.");
    refusedWith(STANDING, -1, "miss(#, 0)", NO_PARTS);
    refusedWith(STANDING, -1, "miss(0, #)", NO_STEPS);
    takenEach(STANDING, 0, "miss(4, 0)", "miss(4, 16)", "miss(1, 8)", "miss(0, 0)");
    taken(STANDING, "miss(0, 16)", 44);
    // The greatest numbers that a page can have.
    taken(with(WIDE, "part(0, 0, 1000, 1, 1000, 1000, 1000, false)"), "miss(0, 8)", 0);
    taken(with(WIDE, "part(0, 0, 0, 1, 1, 1000, 1000, false)"), "crease(0, 8, 0)", 1000);
    sentence("The first STEP at which a PART is STUCK; -9 if there is none. -1.");
    refusedWith(STANDING, -1, "stuck(#)", NO_PARTS);
    takenEach(STANDING, -9, "stuck(0)", "stuck(1)");
    taken(STANDING, "stuck(4)", 0);
    taken(scene("part(0, 0, 10, 1, 10, 30, 31, true)"), "stuck(0)", 0);
    taken(scene("part(0, 0, 100, 1, 100, 20, 20, true)"), "stuck(0)", 3);
    taken(scene("part(0, 0, 200, 1, 199, 199, 199, true)"), "stuck(0)", 16);
  }

  private static void out() {
    sentence("`int out(int step)`: OUT. -1.");
    refusedWith(STANDING, -1, "out(#)", NO_STEPS);
    refusedWith(EMPTY, -1, "out(#)", NO_STEPS);
    taken(EMPTY, "out(0)", 0);
    taken(EMPTY, "out(16)", 0);
    taken(scene("part(1, 0, 100, 1, 101, 0, 0, true)"), "out(0)", 1);
    taken(scene("part(1, 0, 100, 1, 101, 0, 0, true)"), "out(1)", 0);
    taken(scene("part(1, 0, 100, 1, 101, 0, 0, true)"), "out(16)", 0);
  }

  private static void meet() {
    sentence("Whether two PLANES RUN INTO one another at a STEP: 1, 0. -1 (also for one).");
    refusedWith(STANDING, -1, "meet(#, 0, 0)", NO_PLANES);
    refusedWith(STANDING, -1, "meet(0, #, 0)", NO_PLANES);
    refusedWith(STANDING, -1, "meet(0, 1, #)", NO_STEPS);
    refusedWith(STANDING, -1, "meet(#, #, 8)", "0", "1", "2", "11");
    takenEach(STANDING, 0, "meet(0, 1, 0)", "meet(0, 1, 16)", "meet(10, 11, 8)", "meet(0, 11, 8)", "meet(10, 1, 8)");
    // Plane 5 goes from 0, 60 to 80, 60; plane 3 from 0, 100 to 119, 119; plane 2 from 100, 0: none cross. A box at 40, 90 does.
    takenEach(STANDING, 0, "meet(3, 5, 8)", "meet(2, 5, 8)", "meet(5, 2, 8)");
    String[] more = with(STANDING, "part(1, 0, 40, 1, 90, 0, 0, false)");
    takenEach(more, 1, "meet(5, 14, 8)", "meet(14, 5, 8)");
    refused(with(more, "free(6)"), "meet(5, 14, 8)", -1);
  }

  private static void meets() {
    sentence("The first STEP at which any two PLANES do; what 0: it, 1, 2: the two, the lesser first (of several the first pair); -9 if there is none. -2.");
    refusedWith(EMPTY, -2, "meets(#)", "LEAST", "-1", "3", "MOST");
    refusedWith(STANDING, -2, "meets(#)", "-1", "3");
    takenEach(EMPTY, -9, "meets(0)", "meets(1)", "meets(2)");
    takenEach(scene("part(0, 0, 0, 1, 200, 1, 2, true)"), -9, "meets(0)", "meets(1)", "meets(2)");
    // Shut already: the flats from 100, 0 to 50, 33 and from 40, 0 to 90, 33.
    String[] shut = scene("part(0, 0, 0, 1, 100, 60, 60, true)", "part(0, 0, 40, 1, 140, 60, 60, true)");
    taken(shut, "meets(0)", 0);
    taken(shut, "meets(1)", 3);
    taken(shut, "meets(2)", 4);
    // A leaf, and the flat from 0, 8 to 5, -1.
    String[] leaf = scene("part(0, 0, 6, 1, 8, 1, 10, true)");
    taken(leaf, "meets(0)", 8);
    taken(leaf, "meets(1)", 0);
    taken(leaf, "meets(2)", 3);
    meetsByStep();
  }

  private static void meetsByStep() {
    // Planes 0 and 3 cross at step 8 alone, being stuck at others; of later parts 4 and 7 cross at step 1.
    String[] scene = scene("width(1000)", "part(0, 0, 6, 1, 8, 1, 10, true)", "part(1, 0, 150, 1, 504, 0, 0, false)",
      "part(1, 0, 200, 1, 401, 0, 0, false)");
    taken(scene, "meet(0, 3, 8)", 1);
    takenEach(scene, 0, "meet(0, 3, 1)", "meet(0, 3, 0)");
    taken(scene, "meet(4, 7, 1)", 1);
    taken(scene, "meets(0)", 1);
    taken(scene, "meets(1)", 4);
    taken(scene, "meets(2)", 7);
    // Stuck before they are flat; then one goes from 499, 0 to -498, 2, the other from -400, 0 to -399, 2.
    String[] flat = scene("width(1000)", "part(0, 0, 499, 1, 499, 997, 2, false)", "part(0, 0, 598, 1, 400, 997, 2, false)");
    taken(flat, "meets(0)", 16);
    taken(flat, "meets(1)", 2);
    taken(flat, "meets(2)", 5);
  }

  private static void tall() {
    sentence("`int tall(int step)`: TALL. Refused as told: -1.");
    refusedWith(EMPTY, -1, "tall(#)", NO_STEPS);
    refusedWith(STANDING, -1, "tall(#)", NO_STEPS);
    takenEach(EMPTY, 0, "tall(0)", "tall(16)");
    taken(scene("part(0, 0, 100, 1, 100, 120, 120, false)"), "tall(16)", 66);
    taken(scene("part(0, 0, 100, 1, 100, 120, 120, true)"), "tall(16)", -66);
  }

  private static void move() {
    sentence("MOVE of a PART from a STEP (0 .. 15). Refused as told: -1.");
    refusedWith(STANDING, -1, "move(#, 0)", NO_PARTS);
    refusedWith(STANDING, -1, "move(0, #)", "LEAST", "-1", "16", "17", "MOST");
    taken(STANDING, "move(0, 0)", 22);
    taken(STANDING, "move(0, 15)", 11);
    takenEach(STANDING, -1, "move(4, 0)", "move(4, 15)");
    refused(STANDING, "move(4, 16)", -1);
    sentence("The greatest MOVE of all PARTS and STEPS; 0 without any.");
    taken(EMPTY, "greatest()", 0);
    // The greatest at the first step, at the last, of the second part.
    taken(scene("part(0, 0, 100, 1, 100, 120, 120, false)"), "greatest()", 22);
    taken(scene("part(0, 0, 100, 1, 100, 120, 120, false)", "free(0)"), "greatest()", 0);
    taken(scene("part(1, 0, 80, 1, 80, 0, 0, false)", "part(0, 0, 100, 1, 100, 120, 120, false)"), "greatest()", 22);
    taken(scene("part(0, 0, 100, 1, 100, 120, 120, false)", "part(1, 0, 80, 1, 80, 0, 0, false)"), "greatest()", 22);
    taken(scene("part(0, 0, 100, 1, 100, 120, 120, false)", "part(1, 0, 80, 1, 80, 0, 0, false)", "free(0)"), "greatest()", 18);
  }

  private static void find() {
    sentence("The least DISTANCE from v on for a PART's HINGE a (first) or b at which y of its X at a STEP is at most tol away from a height; -9 if there is none.");
    String[] box = scene("part(1, 0, 70, 1, 40, 0, 0, false)");
    taken(box, "find(0, false, 0, 8, 37, 0)", 37);
    taken(box, "find(0, false, 37, 8, 37, 0)", 37);
    taken(box, "find(0, false, 38, 8, 37, 0)", -9);
    taken(box, "find(0, false, 0, 8, 37, 5)", 32);
    taken(box, "find(0, false, 42, 8, 37, 5)", 42);
    taken(box, "find(0, false, 43, 8, 37, 5)", -9);
    taken(box, "find(0, false, 0, 8, 200, 0)", 200);
    taken(box, "find(0, false, 200, 8, 200, 0)", 200);
    taken(box, "find(0, false, 0, 8, 201, 0)", -9);
    taken(box, "find(0, false, 0, 8, 201, 1)", 200);
    takenEach(box, -9, "find(0, false, 0, 8, MOST, 0)", "find(0, false, 0, 8, LEAST, MOST)", "find(0, true, 0, 8, 39, 0)");
    takenEach(box, 1, "find(0, false, 0, 8, 0, MOST)", "find(0, false, 0, 8, MOST, MOST)", "find(0, true, 1, 8, 39, 1)");
    // y is -1.
    taken(scene("part(0, 0, 50, 1, 52, 2, 2, false)"), "find(0, true, 50, 0, LEAST, MOST)", 50);
    taken(scene("part(0, 0, 50, 1, 52, 2, 2, false)"), "find(0, true, 50, 0, -1, 0)", 50);
    // Stuck at every distance, then at those before 47 and behind 57; the plane it hangs on is stuck.
    taken(scene("part(0, 0, 0, 1, 200, 1, 2, true)"), "find(0, true, 0, 8, 0, MOST)", -9);
    taken(scene("part(0, 0, 0, 1, 52, 2, 3, true)"), "find(0, true, 0, 0, 0, 1000)", 47);
    taken(scene("part(0, 0, 0, 1, 52, 2, 3, true)"), "find(0, true, 58, 0, 0, 1000)", -9);
    taken(with(STANDING, "part(0, 10, 1, 0, 1, 5, 5, true)"), "find(6, false, 0, 8, 0, MOST)", -9);
    findRefusals();
    findChangesNothing();
  }

  private static void findRefusals() {
    sentence("-1; -4 v, tol below 0; -6 v above the PLANE's SIZE.");
    refusedWith(STANDING, -1, "find(#, true, 0, 0, 0, 0)", NO_PARTS);
    refusedWith(STANDING, -1, "find(0, true, 0, #, 0, 0)", NO_STEPS);
    refusedEach(STANDING, -4, "find(0, true, -1, 0, 0, 0)", "find(0, false, LEAST, 0, 0, 0)", "find(0, true, 0, 0, 0, -1)",
      "find(0, true, 0, 0, 0, LEAST)", "find(1, true, -1, 0, 0, 0)");
    refusedEach(STANDING, -6, "find(0, true, 201, 0, 0, 0)", "find(0, false, 201, 0, 0, 0)", "find(0, true, MOST, 0, 0, 0)",
      "find(3, true, 61, 0, 0, 0)", "find(3, false, 201, 0, 0, 0)", "find(4, true, 201, 0, 0, 0)");
    // A box takes 0 for v, though not for a hinge.
    taken(STANDING, "find(1, false, 0, 8, 60, 0)", 60);
    taken(STANDING, "find(0, true, 200, 8, 0, 0)", -9);
    taken(STANDING, "find(3, true, 60, 8, 0, MOST)", 60);
    taken(STANDING, "find(3, false, 200, 8, 0, 0)", -9);
  }

  private static void findChangesNothing() {
    sentence("(Nothing changes; flats as hinge() would have them; of a BOX from 1 on.)");
    String[] found = with(STANDING, "find(1, false, 0, 8, 37, 0)", "find(1, true, 5, 0, 0, MOST)", "find(0, true, 0, 8, 0, 0)",
      "find(2, false, 0, 16, 0, 100)");
    for (int part = 0; part <= 4; part++) {
      for (int what = 0; what <= 9; what++) {
        String call = "partOf(" + part + ", " + what + ")";
        taken(found, call, page(STANDING).ask(call));
      }
      for (String call : new String[] {"crease(#, 0, 0)", "crease(#, 8, 1)", "crease(#, 16, 0)", "miss(#, 8)"}) {
        String asked = call.replace("#", "" + part);
        taken(found, asked, page(STANDING).ask(asked));
      }
    }
    // What find() tells, hinge() brings about: for a box, whose flats follow, and for the others, whose flats stay.
    for (int part = 0; part <= 3; part++) {
      for (boolean first : new boolean[] {true, false}) {
        for (int v : new int[] {1, 17, 60}) {
          int height = page(with(STANDING, "hinge(" + part + ", " + first + ", " + v + ")")).ask("crease(" + part + ", 8, 1)");
          if (height != STUCK) taken(STANDING, "find(" + part + ", " + first + ", " + v + ", 8, " + height + ", 0)", v);
        }
      }
    }
  }

  private static void even() {
    sentence("true if X's x and y there are at most TOL apart; false, if it is STUCK by then, or there is no such PART (no REFUSAL is counted).");
    int[][] boxes = {{70, 70, 1}, {72, 70, 1}, {73, 70, 0}, {70, 72, 1}, {70, 73, 0}};
    for (int[] each : boxes) taken(scene("part(1, 0, " + each[0] + ", 1, " + each[1] + ", 0, 0, false)"), "even(0)", each[2]);
    taken(scene("tolerance(0)", "part(1, 0, 70, 1, 70, 0, 0, false)"), "even(0)", 1);
    taken(scene("tolerance(0)", "part(1, 0, 71, 1, 70, 0, 0, false)"), "even(0)", 0);
    taken(scene("tolerance(0)", "part(1, 0, 70, 1, 71, 0, 0, false)"), "even(0)", 0);
    taken(scene("tolerance(100)", "part(1, 0, 100, 1, 200, 0, 0, false)"), "even(0)", 1);
    taken(scene("tolerance(100)", "part(1, 0, 99, 1, 200, 0, 0, false)"), "even(0)", 0);
    taken(scene("tolerance(100)", "part(1, 0, 200, 1, 99, 0, 0, false)"), "even(0)", 0);
    taken(STANDING, "even(0)", 1);
    taken(with(STANDING, "tolerance(100)"), "even(4)", 0);
    for (String none : NO_PARTS) taken(with(STANDING, "tolerance(100)"), "even(" + none + ")", 0);
    taken(with(STANDING, "free(0)"), "even(0)", 0);
  }

  private static void partOf() {
    sentence("Of a PART (also of one that is FREE): 0 KIND, 1 p, 2 a, 3 q, 4 b, 5 c, 6 d, 7 1 for SIDE true, 8 1 if it is there, 9 how many PARTS hang on it. -1; -2.");
    refusedWith(STANDING, -1, "partOf(#, 0)", "LEAST", "-1", "6", "30", "MOST");
    refusedWith(STANDING, -2, "partOf(0, #)", "LEAST", "-1", "10", "MOST");
    refusedWith(STANDING, -2, "partOf(5, #)", "-1", "10");
    refused(EMPTY, "partOf(0, 0)", -1);
    int[][] want = {{0, 0, 100, 1, 100, 120, 120, 0, 1, 0}, {1, 0, 80, 1, 60, 60, 80, 0, 1, 1}, {2, 0, 50, 1, 60, 55, 55, 1, 1, 0},
      {0, 4, 30, 1, 40, 50, 60, 1, 1, 0}, {0, 0, 0, 1, 200, 1, 2, 1, 1, 0}, {0, 0, 9, 1, 9, 20, 20, 1, 0, 0}};
    for (int part = 0; part < want.length; part++) {
      for (int what = 0; what <= 9; what++) taken(STANDING, "partOf(" + part + ", " + what + ")", want[part][what]);
    }
    // What hung on it and was taken out hangs on it no more.
    taken(with(STANDING, "free(3)"), "partOf(1, 9)", 0);
    taken(with(STANDING, "free(3)"), "partOf(3, 1)", 4);
    taken(with(STANDING, "free(3)", "free(1)"), "partOf(1, 8)", 0);
    taken(with(STANDING, "free(3)", "free(1)"), "partOf(1, 5)", 60);
  }

  private static void count() {
    sentence("0 WIDTH, 1 PARTS ever made, 2 PARTS that are there, 3 1 if it SHUTS, 4 PARTS that are STUCK at some STEP, 11 .. 16 REFUSALS -1 .. -6. -9 for another what.");
    int[] want = {200, 6, 5, 0, 1};
    for (int what = 0; what <= 4; what++) taken(STANDING, "count(" + what + ")", want[what]);
    for (String other : new String[] {"LEAST", "-1", "5", "6", "7", "8", "9", "10", "17", "MOST"}) {
      taken(STANDING, "count(" + other + ")", -9);
      taken(EMPTY, "count(" + other + ")", -9);
    }
    String[] refused = with(STANDING, "free(9)", "meets(3)", "meets(4)", "free(1)", "free(1)", "free(1)", "tolerance(-1)", "tolerance(-1)",
      "tolerance(-1)", "tolerance(-1)", "tolerance(101)", "tolerance(101)", "tolerance(101)", "tolerance(101)", "tolerance(101)");
    int[] counts = {1, 2, 3, 4, 0, 5};
    for (int i = 0; i < counts.length; i++) taken(refused, "count(" + (11 + i) + ")", counts[i]);
  }

  public static void main(String[] args) {
    newObject(); pagesWithoutParts(); fullPage();
    width(); tolerance(); partPlanesAndKinds(); partLeast(); partGreatest(); straps(); free(); hinge(); crease(); place(); missAndStuck();
    out(); meet(); meets(); tall(); move(); find(); even(); partOf(); count();
    end("promises at their bounds");
  }
}
