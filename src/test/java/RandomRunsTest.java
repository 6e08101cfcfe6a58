import java.util.Map;
import java.util.TreeMap;

/** Long runs of calls, drawn from fixed seeds, on the class and on the plain model: the answers must be the same. */
public final class RandomRunsTest {
  private static final int RUNS = 200;
  private static final int CALLS = 512;
  private static final int[] EDGES = {Integer.MIN_VALUE, -1000000, -2, -1, 0, 1, 2, 16, 17, 29, 30, 61, 62, 100, 101, 1000, 1001, Integer.MAX_VALUE};

  private static long seed;
  private static int wrong;
  private static final Map<String, Integer> seen = new TreeMap<>();

  private static int below(int bound) {
    seed = seed * 6364136223846793005L + 1442695040888963407L;
    return (int) ((seed >>> 33) % bound);
  }

  private static int from(int least, int most) { return least + below(most - least + 1); }
  private static boolean coin() { return below(2) == 0; }
  /** Now and then an edge or an absurd number instead. */
  private static int odd(int usual) { return below(25) == 0 ? EDGES[below(EDGES.length)] : usual; }

  private static void due(int run, String call, int got, int want) {
    String name = call.substring(0, call.indexOf('('));
    String sort = want >= 1000000000 ? "r" + (1000000000 - want) : want < 0 && want >= -9 ? "" + want : "answer";
    seen.merge(name + " " + sort, 1, Integer::sum);
    if (got != want && wrong++ < 20) System.out.println("run " + run + ": " + call + " answered " + got + ", due is " + want);
  }

  private static int part(int parts) { return odd(below(Math.max(1, parts + (below(20) == 0 ? 1 : 0)))); }
  private static int plane(int parts) { return odd(below(2 + 2 * parts)); }
  private static int step() { return odd(below(17)); }

  private static int distanceOn(PlainModel m, int plane) {
    int size = plane >= 2 ? m.partOf((plane - 2) / 2, 5 + plane % 2) : m.count(0);
    return odd(size < 1 ? 0 : from(0, size));
  }

  /** The model alone is asked for sizes; so that refusals stay in step the class is asked the same. */
  private static int distanceOn(RisingPage x, PlainModel m, int plane) {
    if (plane < 0 || plane > 100) return 0;
    if (plane >= 2) x.partOf((plane - 2) / 2, 5 + plane % 2);
    return distanceOn(m, plane);
  }

  private static void addPart(int run, RisingPage x, PlainModel m, int flat) {
    int parts = m.count(1);
    int kind = odd(below(3));
    boolean onLeaves = below(3) == 0;
    int p = onLeaves ? 0 : plane(parts);
    int q = onLeaves ? 1 : below(3) == 0 ? p ^ 1 : plane(parts);
    int a = distanceOn(x, m, p);
    int b = below(4) == 0 ? a : distanceOn(x, m, q);
    int c = odd(from(1, flat));
    int d = below(3) == 0 ? c : odd(from(1, flat));
    boolean side = coin();
    due(run, "part(" + kind + ", " + p + ", " + a + ", " + q + ", " + b + ", " + c + ", " + d + ", " + side + ")",
      x.part(kind, p, a, q, b, c, d, side), m.part(kind, p, a, q, b, c, d, side));
  }

  private static void oneCall(int run, RisingPage x, PlainModel m, int flat) {
    int parts = m.count(1);
    int n = part(parts), o = part(parts), s = step(), what = odd(below(2)), plane = plane(parts), other = plane(parts);
    int v = odd(below(flat)), height = odd(from(-flat, flat)), tol = odd(below(6));
    boolean first = coin();
    switch (below(21)) {
      case 0: due(run, "width(" + v + ")", x.width(v), m.width(v)); break;
      case 1: due(run, "tolerance(" + v + ")", x.tolerance(v % 120), m.tolerance(v % 120)); break;
      case 2: case 3: addPart(run, x, m, flat); break;
      case 4: if (below(3) == 0) due(run, "free(" + n + ")", x.free(n), m.free(n)); break;
      case 5: due(run, "hinge(" + n + ", " + first + ", " + v + ")", x.hinge(n, first, v), m.hinge(n, first, v)); break;
      case 6: due(run, "crease(" + n + ", " + s + ", " + what + ")", x.crease(n, s, what), m.crease(n, s, what)); break;
      case 7: case 8: int far = distanceOn(x, m, plane);
        due(run, "place(" + plane + ", " + far + ", " + s + ", " + what + ")", x.place(plane, far, s, what), m.place(plane, far, s, what)); break;
      case 9: due(run, "miss(" + n + ", " + s + ")", x.miss(n, s), m.miss(n, s)); break;
      case 10: due(run, "stuck(" + n + ")", x.stuck(n), m.stuck(n)); break;
      case 11: int end = coin() ? s : coin() ? 0 : 16; due(run, "out(" + end + ")", x.out(end), m.out(end)); break;
      case 12: due(run, "meet(" + plane + ", " + other + ", " + s + ")", x.meet(plane, other, s), m.meet(plane, other, s)); break;
      case 13: int which = odd(below(3)); due(run, "meets(" + which + ")", x.meets(which), m.meets(which)); break;
      case 14: due(run, "tall(" + s + ")", x.tall(s), m.tall(s)); break;
      case 15: due(run, "move(" + n + ", " + s + ")", x.move(n, s), m.move(n, s)); break;
      case 16: if (below(4) == 0) due(run, "greatest()", x.greatest(), m.greatest()); break;
      case 17: due(run, "find(" + n + ", " + first + ", " + v + ", " + s + ", " + height + ", " + tol + ")",
          x.find(n, first, v, s, height, tol), m.find(n, first, v, s, height, tol)); break;
      case 18: due(run, "even(" + o + ")", x.even(o) ? 1 : 0, m.even(o) ? 1 : 0); break;
      case 19: int field = odd(below(10)); due(run, "partOf(" + n + ", " + field + ")", x.partOf(n, field), m.partOf(n, field)); break;
      default: int sum = odd(below(18)); due(run, "count(" + sum + ")", x.count(sum), m.count(sum));
    }
  }

  private static void compareAll(int run, RisingPage x, PlainModel m) {
    for (int n = 0; n < m.count(1); n++) {
      for (int what = 0; what < 10; what++) due(run, "partOf(" + n + ", " + what + ") at the end", x.partOf(n, what), m.partOf(n, what));
      for (int s = 0; s < 17; s++) {
        due(run, "crease(" + n + ", " + s + ", 0) at the end", x.crease(n, s, 0), m.crease(n, s, 0));
        due(run, "crease(" + n + ", " + s + ", 1) at the end", x.crease(n, s, 1), m.crease(n, s, 1));
      }
    }
    for (int what = -1; what < 18; what++) due(run, "count(" + what + ") at the end", x.count(what), m.count(what));
  }

  public static void main(String[] args) {
    for (int run = 0; run < RUNS; run++) {
      seed = run * 7919L + 17;
      int flat = new int[] {3, 12, 60, 300, 1000}[run % 5];
      RisingPage x = new RisingPage();
      PlainModel m = new PlainModel();
      if (below(4) != 0) due(run, "width(" + flat + ")", x.width(flat), m.width(flat));
      for (int call = 0; call < CALLS; call++) oneCall(run, x, m, flat);
      compareAll(run, x, m);
    }
    if (args.length > 1) System.out.println(seen);
    System.out.println(wrong == 0 ? "random runs: all answers are as due" : "random runs: " + wrong + " answers are not as due");
    if (wrong != 0) System.exit(1);
  }
}
