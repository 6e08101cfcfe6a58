/** Each sentence of the document's 'Terms' that names a boundary, with the last number on either side of it. Answers are worked out by hand. */
public final class TermsBoundsTest extends Checks {
  private static final int STUCK = 1000000000;
  private static final int[] NO_STEPS = {-1, 17, Integer.MIN_VALUE, Integer.MAX_VALUE};

  private static String bend(int a, int b, int c, int d, boolean side) {
    return "part(0, 0, " + a + ", 1, " + b + ", " + c + ", " + d + ", " + side + ")";
  }

  private static String box(int a, int b) { return "part(1, 0, " + a + ", 1, " + b + ", 0, 0, false)"; }

  private static void creaseIs(TextPage x, int part, int step, int wantX, int wantY) {
    due(x, "crease(" + part + ", " + step + ", 0)", wantX);
    due(x, "crease(" + part + ", " + step + ", 1)", wantY);
  }

  private static void creaseIsStuck(TextPage x, int part, int step) { creaseIs(x, part, step, STUCK, STUCK); }

  private static void placeIs(TextPage x, int plane, int distance, int step, int wantX, int wantY) {
    due(x, "place(" + plane + ", " + distance + ", " + step + ", 0)", wantX);
    due(x, "place(" + plane + ", " + distance + ", " + step + ", 1)", wantY);
  }

  private static void widthBounds() {
    sentence("A PAGE has a WIDTH (1 .. 1000).");
    for (int v : new int[] {1, 2, 999, 1000}) {
      taken(EMPTY, "width(" + v + ")", 200);
      TextPage x = page("width(" + v + ")");
      due(x, "count(0)", v);
      placeIs(x, 0, v, 16, v, 0);
      placeIs(x, 1, v, 16, -v, 0);
    }
    refusedEach(EMPTY, -4, "width(0)", "width(-1)", "width(LEAST)");
    refusedEach(EMPTY, -6, "width(1001)", "width(1002)", "width(MOST)");
  }

  private static void spine() {
    sentence("The SPINE is at 0, 0.");
    TextPage x = page();
    for (int step = 0; step <= 16; step++) {
      placeIs(x, 0, 0, step, 0, 0);
      placeIs(x, 1, 0, step, 0, 0);
    }
  }

  private static void stepsShutAndFlat() {
    sentence("STEPS go from 0 (shut) to 16 (flat).");
    String[] scene = scene(bend(100, 100, 120, 120, false));
    String[] asking = {"crease(0, #, 0)", "crease(0, #, 1)", "place(2, 120, #, 0)", "place(3, 120, #, 1)", "miss(0, #)",
      "out(#)", "meet(0, 1, #)", "tall(#)", "find(0, true, 100, #, 66, 0)"};
    int[] shut = {220, 0, 220, 0, 0, 1, 0, 0, -9};
    int[] flat = {0, 66, 0, 66, 44, 1, 0, 66, 100};
    for (int i = 0; i < asking.length; i++) {
      taken(scene, asking[i].replace("#", "0"), shut[i]);
      taken(scene, asking[i].replace("#", "16"), flat[i]);
      for (int none : NO_STEPS) refused(scene, asking[i].replace("#", "" + none), -1);
    }
  }

  private static void lyingLeaf() {
    sentence("PLANE 0 is the leaf that lies: from the SPINE along 1, 0.");
    TextPage x = page();
    for (int step = 0; step <= 16; step++) {
      placeIs(x, 0, 200, step, 200, 0);
      placeIs(x, 0, 7, step, 7, 0);
    }
  }

  private static void waysBeyondUpright() {
    sentence("STEP 16 less k: the same with x below 0.");
    int[] waysX = {1000, 981, 924, 832, 707, 556, 383, 195, 0, -195, -383, -556, -707, -831, -924, -981, -1000};
    int[] waysY = {0, 195, 383, 556, 707, 832, 924, 981, 1000, 981, 924, 832, 707, 556, 383, 195, 0};
    TextPage x = page("width(1000)");
    for (int step = 0; step <= 16; step++) placeIs(x, 1, 1000, step, waysX[step], waysY[step]);
  }

  private static void endsOfLeaves() {
    sentence("A PLANE has a BEGIN and an END: of the leaves the SPINE, and the place WIDTH along");
    // Shut, with flats from above the page to below it: from 251, 100 to 251, -50, and from 51, 100 to 150, -50 through 117, 0.
    String[] far = {bend(250, 252, 100, 100, true), "part(0, 2, 100, 0, 0, 150, 256, true)"};
    String[] near = {bend(50, 52, 100, 100, true), "part(0, 2, 100, 0, 100, 180, 71, true)"};
    for (int leaf = 0; leaf <= 1; leaf++) {
      String call = "meet(" + leaf + ", 4, 0)";
      due(page(with(scene("width(252)"), far)), call, 1);
      due(page(with(scene("width(1000)"), far)), call, 1);
      due(page(near), call, 1);
      due(page(with(scene("width(118)"), near)), call, 1);
      due(page(with(scene("width(117)"), near)), call, 0);
      due(page(with(scene("width(100)"), near)), call, 0);
    }
    TextPage x = page(near);
    due(x, "meets(0)", 0);
    due(x, "meets(1)", 0);
    due(x, "meets(2)", 4);
    // At step 1 the flat goes from B at 5, 1 to 5, -2. The leaf's line goes to its rounded end: with WIDTH 10 that is
    // 10, 2, and B is on the line; with WIDTH 11 it is 11, 2, and B is above. B is a little above the WAY itself.
    int[][] widths = {{10, 0}, {11, 1}};
    for (int[] each : widths) {
      x = page("width(" + each[0] + ")", bend(5, 5, 2, 3, true));
      creaseIs(x, 0, 1, 5, -2);
      due(x, "meet(1, 3, 1)", each[1]);
      due(x, "meet(3, 1, 1)", each[1]);
    }
  }

  private static void sizeOfLeaves() {
    sentence("its SIZE is WIDTH");
    for (int width : new int[] {1, 200, 1000}) {
      String[] scene = scene("width(" + width + ")");
      int over = width + 1;
      taken(scene, bend(width, width, 1, 1, true), 0);
      refusedEach(scene, -6, bend(over, width, 1, 1, true), bend(width, over, 1, 1, true),
        "place(0, " + over + ", 0, 0)", "place(1, " + over + ", 8, 1)");
    }
  }

  private static void placesFromBeginToEnd() {
    sentence("The place at DISTANCE n (0 .. SIZE) on a PLANE at a STEP: BEGIN, and (END less BEGIN) times n, divided by SIZE");
    String[] scene = scene(bend(100, 100, 120, 120, false));
    TextPage x = page(scene);
    placeIs(x, 2, 0, 8, 100, 0);
    placeIs(x, 2, 1, 8, 100, 1);
    placeIs(x, 2, 119, 8, 119, 118);
    placeIs(x, 2, 120, 8, 119, 119);
    placeIs(x, 3, 0, 8, 0, 100);
    placeIs(x, 3, 120, 8, 119, 119);
    placeIs(x, 1, 0, 4, 0, 0);
    placeIs(x, 1, 200, 4, 141, 141);
    for (int plane = 0; plane <= 3; plane++) {
      int size = plane < 2 ? 200 : 120;
      refused(scene, "place(" + plane + ", -1, 8, 0)", -4);
      refused(scene, "place(" + plane + ", " + (size + 1) + ", 8, 0)", -6);
    }
  }

  private static void placesHalfWay() {
    sentence("each rounded to the nearest (of two the greater");
    TextPage x = page(bend(0, 3, 2, 2, true));
    placeIs(x, 2, 2, 8, -1, 2);
    placeIs(x, 2, 1, 8, 0, 1);
    placeIs(x, 3, 1, 8, 0, 3);
    x = page(bend(0, 3, 2, 2, false));
    placeIs(x, 2, 2, 8, 1, 2);
    placeIs(x, 2, 1, 8, 1, 1);
    placeIs(x, 3, 1, 8, 1, 3);
  }

  private static void placesOnLeavesAtOnce() {
    sentence("of a leaf at once: WAY times n, divided by 10000, likewise");
    TextPage x = page("width(5)");
    placeIs(x, 1, 2, 4, 1, 1);
    placeIs(x, 1, 5, 4, 4, 4);
    placeIs(x, 1, 2, 12, -1, 1);
    x = page("width(1000)");
    due(x, "place(1, 1000, 3, 0)", 832);
    due(x, "place(1, 1000, 13, 0)", -831);
    due(x, "place(1, 1000, 5, 1)", 832);
  }

  private static void numbersOfParts() {
    sentence("PARTS have numbers from 0 on (30 at most).");
    String[] scene = EMPTY;
    for (int n = 0; n < 30; n++) {
      taken(scene, bend(1, 1, 5, 5, true), n);
      scene = with(scene, bend(1, 1, 5, 5, true));
    }
    refusedEach(scene, -6, bend(1, 1, 5, 5, true), box(1, 1), "part(2, 60, 1, 61, 1, 1, 0, false)");
  }

  private static void earlierPlanes() {
    sentence("Each hangs on two earlier PLANES p and q (not the same)");
    refusedEach(EMPTY, -1, "part(0, 2, 1, 0, 1, 5, 5, true)", "part(0, 0, 1, 2, 1, 5, 5, true)",
      "part(0, 3, 1, 0, 1, 5, 5, true)", "part(0, 0, 1, 3, 1, 5, 5, true)", "part(0, 2, 1, 3, 1, 5, 5, true)",
      "part(0, -1, 1, 0, 1, 5, 5, true)", "part(0, 0, 1, -1, 1, 5, 5, true)",
      "part(0, 0, 1, 0, 2, 5, 5, true)", "part(0, 1, 1, 1, 2, 5, 5, true)");
    String[] one = scene(bend(1, 1, 5, 5, true));
    taken(one, "part(0, 2, 1, 3, 1, 5, 5, true)", 1);
    taken(one, "part(0, 3, 1, 2, 1, 5, 5, true)", 1);
    taken(one, "part(0, 1, 1, 0, 1, 5, 5, true)", 1);
    refusedEach(one, -1, "part(0, 4, 1, 0, 1, 5, 5, true)", "part(0, 0, 1, 5, 1, 5, 5, true)",
      "part(0, 2, 1, 2, 2, 5, 5, true)", "part(0, 3, 0, 3, 5, 5, 5, true)");
  }

  private static void sizesOfFlats() {
    sentence("0 BEND: two flats of SIZES c and d (1 .. 1000)");
    for (int[] sizes : new int[][] {{1, 1}, {1, 1000}, {1000, 1}, {1000, 1000}}) {
      TextPage x = page(bend(1, 1, sizes[0], sizes[1], true));
      due(x, "partOf(0, 5)", sizes[0]);
      due(x, "partOf(0, 6)", sizes[1]);
    }
    for (int low : new int[] {0, -1, Integer.MIN_VALUE}) refusedEach(EMPTY, -4, bend(1, 1, low, 1, true), bend(1, 1, 1, low, true));
    for (int high : new int[] {1001, Integer.MAX_VALUE}) refusedEach(EMPTY, -6, bend(1, 1, high, 1, true), bend(1, 1, 1, high, true));
  }

  private static void planesOfParts() {
    sentence("its PLANES 2 + 2 times its number (from A to X), and 1 more (from B to X)");
    TextPage x = page(bend(100, 90, 120, 110, false));
    placeIs(x, 2, 0, 8, 100, 0);
    placeIs(x, 3, 0, 8, 0, 90);
    due(x, "place(2, 121, 8, 0)", 1000000006);
    due(x, "place(3, 111, 8, 0)", 1000000006);
    int endX = x.ask("crease(0, 8, 0)");
    int endY = x.ask("crease(0, 8, 1)");
    placeIs(x, 2, 120, 8, endX, endY);
    placeIs(x, 3, 110, 8, endX, endY);
    due(x, "place(4, 0, 8, 0)", 1000000001);
    x = page(FULL);
    placeIs(x, 60, 0, 8, 9, 0);
    placeIs(x, 61, 0, 8, 0, 9);
    due(x, "place(62, 0, 8, 0)", 1000000001);
    due(x, "place(63, 0, 8, 0)", 1000000001);
  }

  private static void boxesAreBends() {
    sentence("1 BOX: a BEND with c = b and d = a.");
    for (int[] ab : new int[][] {{1, 1}, {1, 1000}, {1000, 1}, {1000, 1000}, {97, 65}}) {
      TextPage box = page("width(1000)", box(ab[0], ab[1]));
      TextPage bend = page("width(1000)", bend(ab[0], ab[1], ab[1], ab[0], false));
      due(box, "partOf(0, 5)", ab[1]);
      due(box, "partOf(0, 6)", ab[0]);
      for (int step = 0; step <= 16; step++) {
        creaseIs(box, 0, step, bend.ask("crease(0, " + step + ", 0)"), bend.ask("crease(0, " + step + ", 1)"));
      }
      creaseIs(box, 0, 8, ab[0], ab[1]);
    }
  }

  private static void secondFlatOfStraps() {
    sentence("c is told, d is the DISTANCE of A and B at STEP 16, rounded down, less c, but 1 at least.");
    // On the leaves 50 and 60 are 110 apart when flat; at the spine both are at one place.
    for (int[] cd : new int[][] {{1, 109}, {108, 2}, {109, 1}, {110, 1}, {111, 1}, {1000, 1}}) {
      due(page("part(2, 0, 50, 1, 60, " + cd[0] + ", 0, true)"), "partOf(0, 6)", cd[1]);
    }
    due(page("part(2, 0, 0, 1, 0, 1, 0, true)"), "partOf(0, 6)", 1);
    // (0, 66) is 119.8 from (100, 0).
    for (int[] cd : new int[][] {{1, 118}, {117, 2}, {118, 1}, {119, 1}, {120, 1}}) {
      TextPage x = page(bend(100, 100, 120, 120, false), "part(2, 2, 120, 0, 100, " + cd[0] + ", 0, true)");
      due(x, "partOf(1, 6)", cd[1]);
    }
  }

  private static void sidesOfTheWay() {
    sentence("SIDE: true: X is to the left of the way from A to B, false: to the right.");
    creaseIs(page(bend(10, 40, 20, 50, true)), 0, 8, -8, -9);
    creaseIs(page(bend(10, 40, 20, 50, false)), 0, 8, 30, 0);
    // From the opening leaf to the lying one the same sides are the other way round.
    creaseIs(page("part(0, 1, 40, 0, 10, 50, 20, true)"), 0, 8, 30, 0);
    creaseIs(page("part(0, 1, 40, 0, 10, 50, 20, false)"), 0, 8, -8, -9);
    // From 119, 119 to 0, 40 and back.
    String[] raised = {bend(100, 100, 120, 120, false)};
    creaseIs(page(with(raised, "part(0, 2, 120, 1, 40, 100, 90, true)")), 1, 8, 89, 24);
    creaseIs(page(with(raised, "part(0, 2, 120, 1, 40, 100, 90, false)")), 1, 8, 19, 128);
    creaseIs(page(with(raised, "part(0, 1, 40, 3, 120, 100, 90, true)")), 1, 8, 30, 135);
    creaseIs(page(with(raised, "part(0, 1, 40, 3, 120, 100, 90, false)")), 1, 8, 100, 31);
    // On the way itself both sides are one.
    creaseIs(page(bend(0, 4, 2, 2, true)), 0, 8, 0, 2);
    creaseIs(page(bend(0, 4, 2, 2, false)), 0, 8, 0, 2);
  }

  private static void circlesThatJustMeet() {
    sentence("With r below 0 there is none: the PART is STUCK at that STEP");
    for (boolean side : new boolean[] {true, false}) {
      creaseIs(page(bend(10, 30, 5, 15, side)), 0, 0, 15, 0);
      creaseIsStuck(page(bend(10, 30, 5, 14, side)), 0, 0);
      creaseIsStuck(page(bend(10, 30, 4, 15, side)), 0, 0);
      creaseIs(page(bend(10, 30, 30, 10, side)), 0, 0, 40, 0);
      creaseIs(page(bend(50, 51, 2, 1, side)), 0, 0, 52, 0);
      creaseIsStuck(page(bend(10, 30, 31, 10, side)), 0, 0);
      creaseIs(page(bend(10, 30, 10, 30, side)), 0, 0, 0, 0);
      creaseIsStuck(page(bend(10, 30, 10, 31, side)), 0, 0);
      creaseIs(page("width(1000)", bend(1000, 1000, 1000, 1000, side)), 0, 16, 0, 0);
      creaseIsStuck(page("width(1000)", bend(1000, 1000, 1000, 999, side)), 0, 16);
    }
  }

  private static void stuckWithWhatItHangsOn() {
    sentence("(and all that hang on one of its PLANES)");
    TextPage x = page(bend(100, 100, 20, 20, true), "part(0, 2, 1, 0, 100, 60, 60, true)", "part(0, 0, 100, 3, 1, 60, 60, true)",
      "part(0, 4, 1, 0, 100, 90, 90, true)", bend(100, 100, 120, 120, true));
    for (int part = 0; part <= 3; part++) {
      due(x, "stuck(" + part + ")", 3);
      creaseIsStuck(x, part, 3);
      creaseIsStuck(x, part, 16);
      due(x, "crease(" + part + ", 3, 2)", 1000000002);
    }
    due(x, "stuck(4)", -9);
    creaseIs(page(bend(100, 100, 20, 20, true)), 0, 2, 91, 18);
    for (int plane = 2; plane <= 9; plane++) {
      placeIs(x, plane, 0, 3, STUCK, STUCK);
      placeIs(x, plane, 1, 16, STUCK, STUCK);
    }
  }

  private static void hingesAtOnePlace() {
    sentence("Without D: if c is d: X is A and WAY-less: A and c along the x way (c, 0); else STUCK.");
    for (boolean side : new boolean[] {true, false}) {
      creaseIs(page(bend(50, 50, 7, 7, side)), 0, 0, 57, 0);
      creaseIsStuck(page(bend(50, 50, 7, 8, side)), 0, 0);
      creaseIsStuck(page(bend(50, 50, 8, 7, side)), 0, 0);
      for (int step = 0; step <= 16; step++) creaseIs(page(bend(0, 0, 7, 7, side)), 0, step, 7, 0);
      due(page(bend(0, 0, 7, 6, side)), "stuck(0)", 0);
      creaseIsStuck(page(bend(0, 0, 7, 6, side)), 0, 16);
      // Both hinges on another part's crease, which is at 119, 119.
      TextPage x = page(bend(100, 100, 120, 120, false), "part(0, 2, 120, 3, 120, 30, 30, " + side + ")",
        "part(0, 2, 120, 3, 120, 30, 31, " + side + ")");
      creaseIs(x, 1, 8, 149, 119);
      creaseIsStuck(x, 2, 8);
    }
  }

  private static void rootsRoundedDown() {
    sentence("Else s is the square root of r, rounded down");
    // r is 3, then 99: 1.7 and 9.9.
    creaseIs(page(bend(0, 1, 1, 1, true)), 0, 8, 0, 1);
    creaseIs(page(bend(0, 1, 5, 5, true)), 0, 8, -4, 1);
    creaseIs(page(bend(0, 1, 5, 5, false)), 0, 8, 5, 1);
    // The greatest root that there is: 2000000.
    creaseIs(page("width(1000)", bend(1000, 1000, 1000, 1000, false)), 0, 8, 1000, 1000);
    creaseIs(page("width(1000)", bend(1000, 1000, 1000, 1000, true)), 0, 8, 0, 0);
  }

  private static void creasesHalfWay() {
    sentence("divided by 2 D, rounded to the nearest (of two the greater), x and y each");
    // 1.5 of x from 0 and from 3; 1.5 of y to either side of 0.
    creaseIs(page(bend(0, 3, 2, 2, true)), 0, 0, 2, 1);
    creaseIs(page(bend(3, 0, 2, 2, true)), 0, 0, 2, -1);
    creaseIs(page(bend(50, 52, 2, 2, true)), 0, 0, 51, 2);
    creaseIs(page(bend(50, 52, 2, 2, false)), 0, 0, 51, -1);
    creaseIs(page(bend(0, 3, 2, 2, true)), 0, 8, -1, 2);
    creaseIs(page(bend(0, 3, 2, 2, false)), 0, 8, 1, 2);
  }

  private static void takenOut() {
    sentence("A PART is FREE (taken out), if no PART hangs on its PLANES; it keeps its number, and is there no more (its PLANES neither).");
    TextPage x = page(box(80, 80), "part(0, 2, 40, 3, 40, 30, 30, true)");
    due(x, "free(0)", -3);
    due(x, "partOf(0, 8)", 1);
    due(x, "free(1)", 1);
    due(x, "free(0)", 1);
    due(x, "partOf(0, 8)", 0);
    due(x, box(10, 10), 2);
    due(x, "partOf(0, 2)", 80);
    due(x, "partOf(2, 2)", 10);
    for (int plane = 2; plane <= 5; plane++) due(x, "place(" + plane + ", 0, 8, 0)", 1000000001);
    placeIs(x, 6, 10, 8, 10, 10);
    due(x, "crease(0, 8, 0)", 1000000001);
    due(x, "part(0, 2, 1, 0, 1, 1, 1, true)", -1);
    due(x, "part(0, 0, 1, 5, 1, 1, 1, true)", -1);
  }

  private static void misses() {
    sentence("==== MISS of a PART at a STEP: the greatest of how much the square of A to X is away from c c, B to X from d d; 0 if it is STUCK.");
    // The square of A to X, and of B to X: 5 2, 2 5, 13 8, 8 20, 5 10.
    due(page(bend(0, 3, 2, 2, true)), "miss(0, 8)", 2);
    due(page(bend(0, 4, 2, 3, true)), "miss(0, 8)", 2);
    due(page(bend(0, 5, 3, 3, true)), "miss(0, 8)", 4);
    due(page(bend(0, 6, 3, 4, true)), "miss(0, 8)", 4);
    due(page(bend(0, 3, 2, 3, true)), "miss(0, 8)", 1);
    due(page(bend(0, 4, 2, 2, true)), "miss(0, 8)", 0);
    due(page(bend(0, 4, 1, 2, true)), "miss(0, 8)", 0);
    due(page(bend(50, 50, 7, 8, true)), "miss(0, 0)", 0);
  }

  private static void outWhenShut() {
    sentence("x of 0 to WIDTH, y at most TOL (0 .. 100, 2 at first) from 0 (at STEP 0)");
    due(page(bend(10, 30, 10, 30, true)), "out(0)", 0);
    due(page(bend(0, 1, 1, 2, true)), "out(0)", 1);
    due(page(box(100, 100)), "out(0)", 0);
    due(page(box(101, 100)), "out(0)", 1);
    due(page("width(1000)", box(500, 500)), "out(0)", 0);
    due(page("width(1000)", box(500, 501)), "out(0)", 1);
    // y is 2, -2, 3, -3.
    due(page(bend(50, 52, 2, 2, true)), "out(0)", 0);
    due(page(bend(50, 52, 2, 3, false)), "out(0)", 0);
    due(page(bend(50, 52, 3, 3, true)), "out(0)", 1);
    due(page(bend(50, 52, 3, 3, false)), "out(0)", 1);
    due(page("tolerance(3)", bend(50, 52, 3, 3, true)), "out(0)", 0);
    due(page("tolerance(3)", bend(50, 52, 3, 3, false)), "out(0)", 0);
    due(page("tolerance(0)", box(70, 40)), "out(0)", 0);
    due(page("tolerance(0)", bend(50, 52, 2, 2, false)), "out(0)", 1);
    due(page("tolerance(1)", bend(50, 52, 2, 2, false)), "out(0)", 0);
    // y is 100, 101.
    due(page("tolerance(100)", bend(50, 52, 100, 100, true)), "out(0)", 0);
    due(page("tolerance(99)", bend(50, 52, 100, 100, true)), "out(0)", 1);
    due(page("tolerance(100)", bend(50, 52, 101, 101, true)), "out(0)", 1);
    due(page("tolerance(100)", bend(50, 52, 101, 101, false)), "out(0)", 1);
  }

  private static void outWhenFlat() {
    sentence("or x of - WIDTH to WIDTH likewise (at STEP 16); at others: none.");
    due(page(bend(0, 199, 200, 1, true)), "out(16)", 0);
    due(page(bend(0, 200, 201, 1, true)), "out(16)", 1);
    due(page(bend(199, 0, 1, 200, true)), "out(16)", 0);
    due(page(bend(200, 0, 1, 201, true)), "out(16)", 1);
    TextPage x = page(bend(1, 0, 2, 1, true));
    creaseIs(x, 0, 16, -1, 0);
    due(x, "out(16)", 0);
    due(x, "out(0)", 1);
    // y is -1, 2, -2, 3, -3.
    due(page(bend(1, 1, 2, 2, true)), "out(16)", 0);
    due(page(bend(1, 1, 2, 2, false)), "out(16)", 0);
    due(page(bend(1, 1, 2, 3, true)), "out(16)", 0);
    due(page(bend(1, 1, 3, 3, false)), "out(16)", 1);
    due(page(bend(1, 1, 3, 3, true)), "out(16)", 1);
    due(page("tolerance(3)", bend(1, 1, 3, 3, true), bend(1, 1, 3, 3, false)), "out(16)", 0);
    due(page("tolerance(0)", bend(1, 1, 2, 2, true)), "out(16)", 1);
    x = page(bend(100, 100, 300, 300, true));
    due(x, "out(0)", 1);
    due(x, "out(16)", 1);
    for (int step = 1; step <= 15; step++) due(x, "out(" + step + ")", 0);
  }

  private static void outOfThoseThere() {
    sentence("OUT at a STEP: how many CREASES of PARTS that are there and not STUCK are not in the page");
    TextPage x = page(box(150, 150), bend(150, 150, 150, 151, true), bend(150, 151, 151, 150, true), bend(100, 100, 2, 2, true));
    due(x, "stuck(1)", 0);
    due(x, "out(0)", 2);
    due(x, "free(0)", 1);
    due(x, "out(0)", 1);
    due(x, "free(2)", 1);
    due(x, "out(0)", 0);
    // What is stuck when flat is not out there, though it is when shut.
    x = page(bend(150, 150, 100, 100, true));
    due(x, "out(0)", 1);
    due(x, "out(16)", 0);
  }

  private static void shuts() {
    sentence("SHUTS: OUT is 0 at STEP 0.");
    due(page(), "count(3)", 1);
    due(page(box(100, 100)), "count(3)", 1);
    due(page(box(101, 100)), "count(3)", 0);
    due(page(bend(100, 90, 100, 90, false)), "count(3)", 1);
    // Beyond the page when flat alone, then when shut alone.
    TextPage x = page(bend(10, 10, 100, 100, true));
    due(x, "out(16)", 1);
    due(x, "count(3)", 1);
    x = page(bend(1, 0, 2, 1, true));
    due(x, "out(16)", 0);
    due(x, "count(3)", 0);
    due(page(bend(50, 50, 7, 8, true)), "count(3)", 1);
  }

  private static void crossingLeaves() {
    sentence("Two PLANES of PARTS (that are there, not STUCK; leaves, too) RUN INTO one another at a STEP if they cross");
    // The leaf's end is at 10, 0; the flat goes from B through 2, 0; 10.4, 0; -1, 0.
    due(page("width(10)", bend(0, 2, 3, 4, false)), "meet(0, 3, 8)", 1);
    due(page("width(10)", bend(0, 2, 3, 4, false)), "meet(3, 0, 8)", 1);
    due(page("width(10)", bend(0, 4, 13, 14, false)), "meet(0, 3, 8)", 0);
    due(page("width(10)", bend(0, 2, 3, 4, true)), "meet(3, 0, 8)", 0);
    due(page("width(10)", bend(1, 1, 2, 1, true)), "meet(1, 2, 8)", 1);
    due(page("width(10)", bend(1, 1, 2, 1, true)), "meet(2, 1, 8)", 1);
    due(page("width(10)", bend(4, 0, 14, 13, false)), "meet(1, 2, 8)", 0);
    due(page("width(10)", bend(0, 4, 1, 2, true)), "meet(0, 3, 8)", 0);
    TextPage x = page();
    for (int step = 0; step <= 16; step++) due(x, "meet(0, 1, " + step + ")", 0);
    // Crossing, then stuck by a hinge that is too far.
    x = page("width(10)", bend(0, 2, 3, 4, false));
    due(x, "meet(0, 3, 8)", 1);
    due(x, "hinge(0, false, 10)", 2);
    due(x, "meet(0, 3, 8)", 0);
    due(x, "meet(3, 0, 8)", 0);
    due(x, "meets(0)", -9);
    x = page("width(10)", bend(0, 2, 3, 4, false), "free(0)");
    due(x, "meet(0, 3, 8)", -1);
    due(x, "meets(0)", -9);
  }

  private static void touchingIsNoCrossing() {
    sentence("each has its BEGIN and END on both sides of the other's line, none on it.");
    // The flat ends on the leaf; the leaf's end is on the flat's line; its begin is; the flat begins on the leaf.
    String[][] scenes = {{"width(10)", bend(0, 2, 1, 2, false)}, {"width(10)", bend(0, 4, 15, 16, false)},
      {"width(10)", bend(0, 1, 1, 2, true)}, {"width(10)", bend(1, 0, 2, 2, true)}};
    for (String[] scene : scenes) {
      due(page(scene), "meet(0, 3, 8)", 0);
      due(page(scene), "meet(3, 0, 8)", 0);
    }
    String[][] onOpening = {{"width(10)", bend(1, 1, 2, 1, false)}, {"width(10)", bend(4, 0, 16, 15, false)},
      {"width(10)", bend(1, 0, 2, 1, true)}, {"width(10)", bend(0, 1, 2, 2, true)}};
    for (String[] scene : onOpening) {
      due(page(scene), "meet(1, 2, 8)", 0);
      due(page(scene), "meet(2, 1, 8)", 0);
    }
    // Plane 3 goes from 0, 4 to 4, 4; plane 4 up from a, 0 to a, b.
    int[][] boxes = {{2, 6, 1}, {3, 5, 1}, {1, 5, 1}, {4, 6, 0}, {5, 6, 0}, {2, 4, 0}, {2, 3, 0}};
    for (int[] each : boxes) {
      due(page(box(4, 4), box(each[0], each[1])), "meet(3, 4, 8)", each[2]);
      due(page(box(4, 4), box(each[0], each[1])), "meet(4, 3, 8)", each[2]);
    }
    // As near beside one another as places can be: 0, 1 to 1, -1 across the leaf from 0, 0 to 1, 0.
    for (String call : new String[] {"meet(0, 3, 8)", "meet(3, 0, 8)"}) due(page("width(1)", bend(1, 1, 1, 2, true)), call, 1);
    for (String call : new String[] {"meet(1, 2, 8)", "meet(2, 1, 8)"}) due(page("width(1)", bend(1, 1, 2, 1, true)), call, 1);
    // On one line, and with one end.
    due(page(box(4, 4), box(4, 6)), "meet(2, 4, 8)", 0);
    due(page(box(4, 4)), "meet(2, 3, 8)", 0);
  }

  private static void tallWithout() {
    sentence("TALL at a STEP: the greatest y of CREASES (0 without any).");
    due(page(), "tall(8)", 0);
    due(page(bend(0, 4, 1, 2, true)), "tall(8)", 0);
    due(page(bend(10, 40, 20, 50, true), "free(0)"), "tall(8)", 0);
    due(page(bend(10, 40, 20, 50, true), box(9, 44)), "tall(8)", 44);
    due(page(box(9, 44), bend(10, 40, 20, 50, true)), "tall(8)", 44);
    due(page(box(9, 44), box(9, 43)), "tall(8)", 44);
  }

  private static void moves() {
    sentence("MOVE of a PART from a STEP to the next one: the greater of how far x and y of X move; -1 if it is STUCK at one.");
    // From 160, 0 to 158, 18; from 80, 80 to 64, 78; from 2, 18 to 0, 0.
    TextPage x = page(box(80, 80));
    due(x, "move(0, 0)", 18);
    due(x, "move(0, 8)", 16);
    due(x, "move(0, 15)", 18);
    // Stuck at the next one, then at this one.
    x = page(bend(100, 100, 20, 20, true));
    due(x, "move(0, 1)", 10);
    due(x, "move(0, 2)", -1);
    due(x, "move(0, 3)", -1);
    x = page(bend(10, 10, 30, 31, true));
    due(x, "move(0, 0)", -1);
    due(x, "move(0, 1)", 2);
    x = page(bend(200, 199, 199, 199, true));
    due(x, "move(0, 14)", 2);
    due(x, "move(0, 15)", -1);
  }

  private static void saidOnceMoreOfRoom() {
    sentence("Said once more: 30 PARTS in all, those that were taken out, too");
    TextPage x = page();
    for (int n = 0; n < 30; n++) {
      due(x, bend(1, 1, 5, 5, true), n);
      due(x, "free(" + n + ")", 1);
    }
    due(x, bend(1, 1, 5, 5, true), -6);
    due(x, "count(1)", 30);
    due(x, "count(2)", 0);
    due(x, "count(16)", 1);
    due(x, "width(1000)", 200);
    due(x, bend(1, 1, 5, 5, true), -6);
  }

  private static void saidOnceMoreOfD() {
    sentence("d is looked at of BENDS alone (neither of BOXES nor of STRAPS)");
    for (String d : new String[] {"LEAST", "-1", "0", "1", "1000", "1001", "MOST"}) {
      taken(EMPTY, "part(1, 0, 50, 1, 60, 1, " + d + ", true)", 0);
      due(page("part(1, 0, 50, 1, 60, 1, " + d + ", true)"), "partOf(0, 6)", 50);
      taken(EMPTY, "part(2, 0, 50, 1, 60, 55, " + d + ", true)", 0);
      due(page("part(2, 0, 50, 1, 60, 55, " + d + ", true)"), "partOf(0, 6)", 55);
    }
    refused(EMPTY, bend(50, 60, 55, 0, true), -4);
    refused(EMPTY, bend(50, 60, 55, 1001, true), -6);
  }

  private static void saidOnceMoreOfRounding() {
    sentence("X is rounded once, behind the sum");
    // Halves that are wholes together.
    creaseIs(page(bend(1, 1, 1, 1, true)), 0, 8, 0, 0);
    creaseIs(page(bend(1, 1, 1, 1, false)), 0, 8, 1, 1);
    creaseIs(page(bend(1, 1, 1, 2, true)), 0, 8, 1, -1);
    creaseIs(page(bend(1, 1, 2, 1, true)), 0, 8, -1, 1);
  }

  private static void saidOnceMoreOfHanging() {
    sentence("on a PART hang those that are on its own PLANES (once each)");
    TextPage x = page(bend(100, 100, 120, 120, false));
    due(x, "partOf(0, 9)", 0);
    due(x, "part(0, 2, 1, 3, 1, 5, 5, true)", 1);
    due(x, "partOf(0, 9)", 1);
    due(x, "part(0, 2, 1, 0, 1, 5, 5, true)", 2);
    due(x, "partOf(0, 9)", 2);
    due(x, "part(0, 1, 1, 3, 1, 5, 5, true)", 3);
    due(x, "partOf(0, 9)", 3);
    // On parts that hang on it, and on the leaves alone: not on itself.
    due(x, "part(0, 4, 1, 5, 1, 5, 5, true)", 4);
    due(x, bend(1, 1, 5, 5, true), 5);
    due(x, "partOf(0, 9)", 3);
    due(x, "partOf(1, 9)", 1);
    due(x, "partOf(4, 9)", 0);
    due(x, "free(1)", -3);
    due(x, "free(4)", 1);
    due(x, "partOf(1, 9)", 0);
    due(x, "free(1)", 1);
    due(x, "partOf(0, 9)", 2);
    due(x, "free(0)", -3);
    due(x, "free(2)", 1);
    due(x, "free(0)", -3);
    due(x, "free(3)", 1);
    due(x, "partOf(0, 9)", 0);
    due(x, "free(0)", 1);
  }

  private static void saidOnceMoreOfEven() {
    sentence("even() asks STEP 8 alone");
    // Stuck at every step but 8, where its crease is at 5, -1; at 16 alone; at 0 alone; at 3 and all behind.
    due(page(bend(6, 8, 1, 10, true), "tolerance(6)"), "even(0)", 1);
    due(page(bend(6, 8, 1, 10, true), "tolerance(5)"), "even(0)", 0);
    due(page(bend(200, 199, 199, 199, true)), "even(0)", 1);
    due(page(bend(10, 10, 30, 31, true), "tolerance(3)"), "even(0)", 1);
    due(page(bend(10, 10, 30, 31, true)), "even(0)", 0);
    due(page(bend(100, 100, 20, 20, true), "tolerance(100)"), "even(0)", 0);
  }

  private static void saidOnceMoreOfFind() {
    sentence("find() of a BOX begins with 1");
    String[] scene = scene(box(70, 40));
    taken(scene, "find(0, true, 0, 8, 40, 0)", 1);
    taken(scene, "find(0, false, 0, 8, 0, 1)", 1);
    taken(scene, "find(0, false, 0, 8, 0, 0)", -9);
    taken(scene, "find(0, false, 1, 8, 1, 0)", 1);
    taken(scene, "find(0, true, 2, 8, 40, 0)", 2);
    // Others begin with 0: y is 1.5 there; a strap at the spine is at 0.
    taken(scene(bend(5, 3, 2, 2, true)), "find(0, true, 0, 8, 2, 0)", 0);
    taken(scene("part(2, 0, 2, 1, 0, 1, 0, true)"), "find(0, true, 0, 0, 0, 0)", 0);
  }

  private static void saidOnceMoreOfGreatest() {
    sentence("the greatest MOVE is 0 at least");
    due(page(), "greatest()", 0);
    due(page(bend(0, 200, 1, 2, true)), "greatest()", 0);
    due(page(bend(0, 0, 7, 7, true)), "greatest()", 0);
    due(page(bend(6, 8, 1, 10, true)), "greatest()", 0);
    due(page(box(80, 80)), "greatest()", 18);
    due(page(box(80, 80), bend(0, 200, 1, 2, true)), "greatest()", 18);
  }

  private static void saidOnceMoreOfTall() {
    sentence("TALL may be below 0");
    due(page(bend(10, 40, 20, 50, true)), "tall(8)", -9);
    due(page(bend(50, 52, 3, 3, false)), "tall(0)", -3);
    due(page(bend(50, 52, 3, 3, false), bend(50, 52, 2, 2, false)), "tall(0)", -1);
    due(page(bend(50, 52, 2, 2, false), bend(50, 52, 3, 3, false)), "tall(0)", -1);
    due(page(bend(50, 52, 3, 3, false), bend(50, 50, 7, 8, false)), "tall(0)", -3);
    due(page(bend(50, 50, 7, 8, false), bend(50, 52, 3, 3, false)), "tall(0)", -3);
  }

  private static void saidOnceMoreOfOut() {
    sentence("OUT: TOL is of y alone");
    due(page("tolerance(100)", bend(0, 1, 1, 2, true)), "out(0)", 1);
    due(page("tolerance(100)", box(101, 100)), "out(0)", 1);
    due(page("tolerance(100)", bend(0, 200, 201, 1, true)), "out(16)", 1);
    due(page("tolerance(100)", bend(200, 0, 1, 201, true)), "out(16)", 1);
  }

  private static void saidOnceMoreOfMeets() {
    sentence("meets(): the least lesser PLANE, then the least greater");
    // At step 1 planes 3 and 8, 3 and 10, 5 and 6, 8 and 11 cross; no hinge is rounded to beyond the opening leaf.
    TextPage x = page("width(1000)", box(400, 401), box(200, 109), box(150, 160), box(300, 504), box(350, 452));
    for (int[] pair : new int[][] {{3, 8}, {3, 10}, {5, 6}, {8, 11}}) due(x, "meet(" + pair[0] + ", " + pair[1] + ", 1)", 1);
    due(x, "meets(0)", 1);
    due(x, "meets(1)", 3);
    due(x, "meets(2)", 8);
    due(x, "free(3)", 1);
    due(x, "meets(2)", 10);
    due(x, "free(0)", 1);
    due(x, "meets(1)", 5);
    due(x, "meets(2)", 6);
  }

  private static void saidOnceMoreOfCount() {
    sentence("count(4): of those that are there");
    TextPage x = page(bend(100, 100, 20, 20, true), bend(0, 200, 1, 2, true), bend(200, 199, 199, 199, true), box(50, 50));
    due(x, "count(4)", 3);
    due(x, "free(1)", 1);
    due(x, "count(4)", 2);
    due(x, "free(0)", 1);
    due(x, "free(2)", 1);
    due(x, "count(4)", 0);
  }

  public static void main(String[] args) {
    widthBounds(); spine(); stepsShutAndFlat(); lyingLeaf(); waysBeyondUpright(); endsOfLeaves(); sizeOfLeaves();
    placesFromBeginToEnd(); placesHalfWay(); placesOnLeavesAtOnce();
    numbersOfParts(); earlierPlanes(); sizesOfFlats(); planesOfParts(); boxesAreBends(); secondFlatOfStraps(); sidesOfTheWay();
    circlesThatJustMeet(); stuckWithWhatItHangsOn(); hingesAtOnePlace(); rootsRoundedDown(); creasesHalfWay(); takenOut();
    misses(); outWhenShut(); outWhenFlat(); outOfThoseThere(); shuts();
    crossingLeaves(); touchingIsNoCrossing(); tallWithout(); moves();
    saidOnceMoreOfRoom(); saidOnceMoreOfD(); saidOnceMoreOfRounding(); saidOnceMoreOfHanging(); saidOnceMoreOfEven();
    saidOnceMoreOfFind(); saidOnceMoreOfGreatest(); saidOnceMoreOfTall(); saidOnceMoreOfOut(); saidOnceMoreOfMeets();
    saidOnceMoreOfCount();
    end("terms");
  }
}
