/** What the document says of REFUSALS themselves: which of several is told, how it is told, what it counts and what it leaves as it was. */
public final class RefusalsTest extends Checks {
  /** Part 0 is stuck at every step, part 1 hangs on it. */
  private static final String[] STUCK_ONES = {"part(0, 0, 0, 1, 200, 1, 2, true)", "part(0, 2, 1, 0, 1, 5, 5, true)"};

  private static void orderOfWidth() {
    sentence("WIDTH of a PAGE without PARTS that are there: what it was. -3 there are; -4; -6.");
    refusedEach(STANDING, -3, "width(0)", "width(LEAST)", "width(1001)", "width(MOST)", "width(200)");
  }

  private static void orderOfPart() {
    sentence("-1 p or q is no PLANE that is there, or they are one; -2 KIND; -4 a or b below 0, c (BEND, STRAP), d (BEND) below 1; -6 a, b above the PLANE's SIZE, c, d above 1000, 30 PARTS.");
    // -1 before all others, for p, for q, and for both in one.
    for (String planes : new String[] {"12, #, 0, #", "0, #, 12, #", "1, #, 1, #", "-1, #, -1, #"}) {
      for (String far : new String[] {"1", "-1", "201"}) {
        for (String kind : new String[] {"0", "1", "2", "3"}) {
          String call = "part(" + kind + ", " + planes.replace("#", far) + ", 0, 1001, true)";
          refused(STANDING, call, -1);
          refused(FULL, call, -1);
        }
      }
    }
    // -2 before -4 and -6.
    refusedEach(STANDING, -2, "part(3, 0, -1, 1, 1, 1, 1, true)", "part(3, 0, 1, 1, -1, 1, 1, true)", "part(-1, 0, 1, 1, 1, 0, 1, true)",
      "part(3, 0, 1, 1, 1, 1, 0, true)", "part(3, 0, 201, 1, 1, 1, 1, true)", "part(-1, 0, 1, 1, 1, 1001, 1, true)",
      "part(MOST, 0, 0, 1, 0, 0, 0, true)");
    refusedEach(FULL, -2, "part(3, 0, 1, 1, 1, 1, 1, true)", "part(-1, 0, -1, 1, 201, 1, 1, true)");
    // -4 before -6, whichever number is below and whichever above.
    refusedEach(STANDING, -4, "part(0, 0, -1, 1, 201, 1, 1, true)", "part(0, 0, 201, 1, -1, 1, 1, true)", "part(0, 0, -1, 1, 1, 1001, 1, true)",
      "part(0, 0, 1, 1, -1, 1, 1001, true)", "part(0, 0, 201, 1, 1, 0, 1, true)", "part(0, 0, 1, 1, 201, 0, 1, true)",
      "part(0, 0, 201, 1, 1, 1, 0, true)", "part(0, 0, 1, 1, 201, 1, 0, true)", "part(0, 0, 1, 1, 1, 0, 1001, true)",
      "part(0, 0, 1, 1, 1, 1001, 0, true)", "part(2, 0, 201, 1, 1, 0, 0, true)", "part(2, 0, -1, 1, 1, 1001, 0, true)",
      "part(1, 0, -1, 1, 201, 0, 0, true)", "part(1, 0, 201, 1, -1, 0, 0, true)");
    refusedEach(FULL, -4, "part(0, 0, -1, 1, 1, 1, 1, true)", "part(0, 0, 1, 1, 1, 0, 1, true)", "part(0, 0, 1, 1, 1, 1, 0, true)",
      "part(2, 0, 1, 1, 1, 0, 1, true)", "part(1, 0, 1, 1, -1, 1, 1, true)");
  }

  private static void orderOfBoxes() {
    sentence("A BOX with a or b 0: -4, too.");
    refusedEach(STANDING, -4, "part(1, 0, 0, 1, 201, 0, 0, true)", "part(1, 0, 201, 1, 0, 0, 0, true)");
    refusedEach(FULL, -4, "part(1, 0, 0, 1, 1, 0, 0, true)", "part(1, 0, 1, 1, 0, 0, 0, true)");
  }

  private static void orderOfStraps() {
    sentence("Then, of a STRAP: -3 A or B is STUCK at STEP 16, -6 d above 1000.");
    refusedEach(STUCK_ONES, -1, "part(2, 2, 1, 2, 1, 1, 0, true)");
    refusedEach(STUCK_ONES, -4, "part(2, 2, -1, 0, 1, 1, 0, true)", "part(2, 2, 1, 0, 1, 0, 0, true)");
    refusedEach(STUCK_ONES, -6, "part(2, 2, 2, 0, 1, 1, 0, true)", "part(2, 2, 1, 0, 201, 1, 0, true)", "part(2, 2, 1, 0, 1, 1001, 0, true)");
    refusedEach(STUCK_ONES, -3, "part(2, 2, 1, 0, 1, 1, 0, true)", "part(2, 0, 1, 3, 2, 1, 0, true)", "part(2, 4, 1, 1, 1, 1, 0, true)");
    // Part 4 of the full page is stuck at every step, too.
    refused(FULL, "part(2, 10, 1, 0, 1, 1, 0, true)", -6);
  }

  private static void orderOfHinge() {
    sentence("what it was. -1; -4 (of a BOX below 1); -6.");
    refusedEach(STANDING, -1, "hinge(5, true, -1)", "hinge(6, false, -1)", "hinge(-1, true, 201)", "hinge(30, true, MOST)", "hinge(5, true, LEAST)");
  }

  private static void orderOfPlaces() {
    sentence("1000000000 if it is STUCK. Refused as told: -1; -2.");
    refusedEach(STANDING, -1, "crease(6, 0, 2)", "crease(5, 0, -1)", "crease(0, 17, 2)", "crease(0, -1, -1)", "crease(4, 17, 0)");
    refusedEach(STANDING, -2, "crease(4, 0, 2)", "crease(4, 16, -1)");
    sentence("1000000000 if it is STUCK. Refused as told: -1; -2; -4; -6.");
    refusedEach(STANDING, -1, "place(14, -1, 0, 2)", "place(12, 201, 0, 0)", "place(13, 0, 0, 2)", "place(0, 0, 17, 2)", "place(0, -1, -1, 0)",
      "place(0, 201, 17, 0)", "place(10, 0, 17, 0)");
    refusedEach(STANDING, -2, "place(0, -1, 0, 2)", "place(0, 201, 0, -1)", "place(10, 0, 0, 2)", "place(10, 2, 0, 2)");
    refusedEach(STANDING, -4, "place(10, -1, 0, 0)");
    refusedEach(STANDING, -6, "place(10, 2, 0, 0)");
  }

  private static void orderOfFind() {
    sentence("-1; -4 v, tol below 0; -6 v above the PLANE's SIZE.");
    refusedEach(STANDING, -1, "find(6, true, -1, 0, 0, 0)", "find(5, true, 0, 0, 0, -1)", "find(-1, true, 201, 0, 0, 0)",
      "find(0, true, -1, 17, 0, 0)", "find(0, false, 0, -1, 0, -1)", "find(0, false, 201, 17, 0, -1)");
    refusedEach(STANDING, -4, "find(0, true, 201, 0, 0, -1)", "find(0, false, MOST, 0, 0, LEAST)", "find(0, true, -1, 0, 0, -1)",
      "find(4, true, 201, 0, 0, -1)");
  }

  private static void orderOfPartOf() {
    sentence("8 1 if it is there, 9 how many PARTS hang on it. -1; -2.");
    refusedEach(STANDING, -1, "partOf(6, 10)", "partOf(-1, -1)", "partOf(30, 10)");
    refusedEach(STANDING, -2, "partOf(5, 10)");
  }

  private static void nobodyOfTwo() {
    sentence("-1 NOBODY: no such PART, PLANE, STEP.");
    refusedEach(STANDING, -1, "miss(6, 17)", "move(5, 16)", "move(-1, -1)", "meet(14, 14, 17)", "meet(0, 0, 8)", "meet(12, 13, 0)", "meet(2, 2, -1)");
  }

  private static void toldApart() {
    sentence("Of answers that may be below 0 otherwise than -9 as told REFUSALS are 1000000000 less them (-1 as 1000000001) (so -1 is 1000000001).");
    TextPage x = page(STANDING);
    for (String call : new String[] {"crease(6, 0, 0)", "place(14, 0, 0, 0)", "tall(17)", "move(6, 0)", "move(0, 16)"}) due(x, call, 1000000001);
    for (String call : new String[] {"crease(0, 0, 2)", "place(0, 0, 0, 2)"}) due(x, call, 1000000002);
    due(x, "place(0, -1, 0, 0)", 1000000004);
    due(x, "place(0, 201, 0, 0)", 1000000006);
    for (String call : new String[] {"part(0, 0, 1, 0, 1, 1, 1, true)", "free(6)", "hinge(6, true, 1)", "miss(6, 0)", "stuck(6)", "out(17)",
        "meet(0, 0, 0)", "find(6, true, 0, 0, 0, 0)", "partOf(6, 0)"}) due(x, call, -1);
    for (String call : new String[] {"part(3, 0, 1, 1, 1, 1, 1, true)", "meets(3)", "partOf(0, 10)"}) due(x, call, -2);
    for (String call : new String[] {"width(1)", "free(1)"}) due(x, call, -3);
    for (String call : new String[] {"tolerance(-1)", "part(0, 0, -1, 1, 1, 1, 1, true)", "hinge(0, true, -1)", "find(0, true, -1, 0, 0, 0)"}) due(x, call, -4);
    for (String call : new String[] {"tolerance(101)", "part(0, 0, 201, 1, 1, 1, 1, true)", "hinge(0, true, 201)", "find(0, true, 201, 0, 0, 0)"}) due(x, call, -6);
    // Those told apart are counted with the others.
    int[] counts = {14, 5, 2, 5, 0, 5};
    for (int i = 0; i < counts.length; i++) due(x, "count(" + (11 + i) + ")", counts[i]);
  }

  private static void answersThatAreNoRefusals() {
    sentence("(the call answers the number, the first that fits in the order in which it tells them; nothing changes but how many there were)");
    for (String call : new String[] {"stuck(0)", "find(0, true, 0, 8, 1000, 0)", "count(5)", "count(-1)"}) {
      taken(scene("part(1, 0, 50, 1, 50, 0, 0, false)"), call, -9);
    }
    taken(EMPTY, "meets(0)", -9);
    taken(STANDING, "move(4, 0)", -1);
    taken(STANDING, "even(6)", 0);
    taken(STANDING, "crease(4, 0, 0)", 1000000000);
    taken(STANDING, "place(10, 0, 0, 0)", 1000000000);
    taken(scene("part(0, 0, 0, 1, 1, 1, 2, true)"), "crease(0, 0, 0)", -1);
    taken(scene("part(0, 0, 50, 1, 52, 2, 2, false)"), "tall(0)", -1);
    taken(scene("part(0, 0, 50, 1, 52, 2, 3, false)"), "tall(0)", -2);
    taken(STANDING, "place(1, 3, 16, 0)", -3);
  }

  private static void lastCallOfAnObject() {
    sentence("An object is used for at most 512 calls after it has been made; what later calls answer is free.");
    String[] refusing = {"free(0)", "meets(3)", "width(0)", "tolerance(101)"};
    int[] counted = {11, 12, 14, 16};
    for (int i = 0; i < refusing.length; i++) {
      TextPage x = page();
      while (x.asked() < TextPage.MOST_CALLS - 1) x.ask(refusing[i]);
      due(x, "count(" + counted[i] + ")", 511);
    }
    TextPage x = page("part(1, 0, 70, 1, 40, 0, 0, false)");
    while (x.asked() < TextPage.MOST_CALLS - 1) {
      int v = 1 + x.asked() % 200;
      x.ask("hinge(0, false, " + v + ")");
      if (x.asked() < TextPage.MOST_CALLS - 1) due(x, "crease(0, 8, 1)", v);
    }
    due(x, "crease(0, 8, 0)", 70);
    x = page(FULL);
    while (x.asked() < TextPage.MOST_CALLS - 1) x.ask("width(300)");
    due(x, "part(0, 0, 1, 1, 1, 1, 1, true)", -6);
  }

  public static void main(String[] args) {
    orderOfWidth(); orderOfPart(); orderOfBoxes(); orderOfStraps(); orderOfHinge(); orderOfPlaces(); orderOfFind(); orderOfPartOf();
    nobodyOfTwo(); toldApart(); answersThatAreNoRefusals(); lastCallOfAnObject();
    end("refusals");
  }
}
