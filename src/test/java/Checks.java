import java.util.ArrayList;
import java.util.Arrays;
import java.util.List;
import java.util.Set;

/** What the tests of sentences share: each says the sentence of the document that it holds the class to, then asks. */
abstract class Checks {
  static final String[] EMPTY = {};

  /**
   * A bend, a box, a strap, a bend on the box, a bend that is stuck at every step, and one taken out.
   * Sizes of planes 2 .. 11: 120 120, 60 80, 55 55, 50 60, 1 2; planes 12 and 13 are there no more.
   */
  static final String[] STANDING = {
    "part(0, 0, 100, 1, 100, 120, 120, false)",
    "part(1, 0, 80, 1, 60, 0, 0, false)",
    "part(2, 0, 50, 1, 60, 55, 0, true)",
    "part(0, 4, 30, 1, 40, 50, 60, true)",
    "part(0, 0, 0, 1, 200, 1, 2, true)",
    "part(0, 0, 9, 1, 9, 20, 20, true)",
    "free(5)"
  };

  /** The same, with parts up to the last that there is room for. */
  static final String[] FULL = full();

  /** Their answers may be below 0, so they tell refusals as 1000000000 less the number. */
  private static final Set<String> TOLD_APART = Set.of("crease", "place", "tall", "move");

  private static String sentence = "";
  private static int sentences;
  private static int asked;
  private static int wrong;

  private static String[] full() {
    String[] calls = Arrays.copyOf(STANDING, STANDING.length + 24);
    Arrays.fill(calls, STANDING.length, calls.length, "part(0, 0, 9, 1, 9, 20, 20, true)");
    return calls;
  }

  static String[] with(String[] scene, String... more) {
    String[] calls = Arrays.copyOf(scene, scene.length + more.length);
    System.arraycopy(more, 0, calls, scene.length, more.length);
    return calls;
  }

  static String[] scene(String... calls) { return calls; }

  static TextPage page(String... calls) { return new TextPage(calls); }

  static void sentence(String words) {
    sentence = words;
    sentences++;
  }

  private static void compare(String what, Object got, Object want) {
    asked++;
    if (got.equals(want)) return;
    wrong++;
    System.out.println("'" + sentence + "': " + what + " answered " + got + ", due is " + want);
  }

  static void due(TextPage page, String call, int want) {
    int got = page.ask(call);
    compare(page.told(), got, want);
  }

  /** A call that is answered with want, and counted as no refusal. */
  static void taken(String[] scene, String call, int want) {
    TextPage x = page(scene);
    due(x, call, want);
    compare(x.told() + ": refusals", refusals(x), refusals(page(scene)));
  }

  /** A call that is refused: it answers so, raises that one count by one, and leaves all else as it was. */
  static void refused(String[] scene, String call, int why) {
    TextPage x = page(scene);
    TextPage untouched = page(scene);
    due(x, call, TOLD_APART.contains(TextPage.nameOf(call)) ? 1000000000 - why : why);
    List<Integer> counts = refusals(untouched);
    counts.set(-why - 1, counts.get(-why - 1) + 1);
    compare(x.told() + ": refusals", refusals(x), counts);
    compare(String.join("; ", scene) + "; " + call + ": what is there", state(x), state(untouched));
  }

  static void refusedEach(String[] scene, int why, String... calls) {
    for (String call : calls) refused(scene, call, why);
  }

  private static List<Integer> refusals(TextPage x) {
    List<Integer> counts = new ArrayList<>();
    for (int what = 11; what <= 16; what++) counts.add(x.ask("count(" + what + ")"));
    return counts;
  }

  /** All that can be seen of a page, and what it answers to changes; of many parts the first eight and the last. */
  private static List<Integer> state(TextPage x) {
    List<Integer> seen = new ArrayList<>();
    for (int what = 0; what <= 4; what++) seen.add(x.ask("count(" + what + ")"));
    int made = seen.get(1);
    for (int n = 0; n < made; n++) {
      if (n >= 8 && n < made - 1) continue;
      for (int what = 0; what <= 9; what++) seen.add(x.ask("partOf(" + n + ", " + what + ")"));
      for (int step = 0; step <= 16; step += 4) {
        seen.add(x.ask("crease(" + n + ", " + step + ", 0)"));
        seen.add(x.ask("crease(" + n + ", " + step + ", 1)"));
      }
    }
    for (String call : new String[] {"out(0)", "out(16)", "meets(0)", "tall(8)", "greatest()", "place(1, 1, 0, 0)",
        "tolerance(50)", "width(7)", "part(0, 0, 3, 1, 3, 9, 9, true)", "count(1)"}) seen.add(x.ask(call));
    return seen;
  }

  static void end(String test) {
    System.out.println(test + ": " + sentences + " sentences, " + asked + " answers, " + wrong + " not as due");
    if (wrong != 0) System.exit(1);
  }
}
