/** Each promise of the document by itself: ordinary inputs, the edges that it names, wrong inputs. The answers are worked out by hand, or by other calls whose answers are; a few are those of the given runs. */
public final class PromisesTest {
  private static final int STUCK = 1000000000;
  private static final int LEAST = Integer.MIN_VALUE;
  private static final int MOST = Integer.MAX_VALUE;
  private static int wrong;
  private static int promise;
  private static int asked;

  private static void due(int got, int want) {
    asked++;
    if (got != want) {
      wrong++;
      System.out.println("promise " + promise + ", line " + Thread.currentThread().getStackTrace()[2].getLineNumber()
        + ": answered " + got + ", due is " + want);
    }
  }

  private static void due(boolean got, boolean want) { due(got ? 1 : 0, want ? 1 : 0); }

  private static RisingPage page(int width) {
    RisingPage x = new RisingPage();
    x.width(width);
    return x;
  }

  /** A box whose crease at step 8 is (a, b). */
  private static RisingPage withBox(int a, int b) {
    RisingPage x = new RisingPage();
    x.part(1, 0, a, 1, b, 0, 0, false);
    return x;
  }

  private static RisingPage withBend(int a, int b, int c, int d, boolean side) {
    RisingPage x = new RisingPage();
    x.part(0, 0, a, 1, b, c, d, side);
    return x;
  }

  private static void newObject() {
    RisingPage x = new RisingPage();
    due(x.count(0), 200);
    due(x.count(1), 0);
    due(x.count(2), 0);
    due(x.count(3), 1);
    due(x.count(4), 0);
    for (int what = 11; what <= 16; what++) due(x.count(what), 0);
    due(x.tolerance(2), 2);
    due(x.partOf(0, 0), -1);
    due(x.place(0, 200, 16, 0), 200);
    due(x.place(1, 200, 16, 0), -200);
    due(x.place(2, 0, 0, 0), 1000000001);
  }

  private static void width() {
    RisingPage x = new RisingPage();
    due(x.width(0), -4);
    due(x.width(LEAST), -4);
    due(x.width(1001), -6);
    due(x.width(MOST), -6);
    due(x.width(1), 200);
    due(x.width(1000), 1);
    due(x.count(0), 1000);
    due(x.place(1, 1000, 8, 1), 1000);
    due(x.part(0, 0, 1, 1, 1, 1, 1, true), 0);
    due(x.width(500), -3);
    due(x.width(0), -3);
    due(x.width(1001), -3);
    due(x.count(0), 1000);
    due(x.free(0), 1);
    due(x.width(500), 1000);
    due(x.place(1, 501, 8, 1), 1000000006);
    due(x.count(13), 3);
    due(x.count(14), 2);
    due(x.count(16), 3);
  }

  private static void tolerance() {
    RisingPage x = new RisingPage();
    due(x.tolerance(-1), -4);
    due(x.tolerance(101), -6);
    due(x.tolerance(0), 2);
    due(x.tolerance(100), 0);
    due(x.tolerance(100), 100);
  }

  private static void partRefusals() {
    RisingPage x = new RisingPage();
    due(x.part(9, 0, -1, 0, -1, 0, 0, true), -1);
    due(x.part(0, 2, 1, 0, 1, 1, 1, true), -1);
    due(x.part(0, -1, 1, 0, 1, 1, 1, true), -1);
    due(x.part(0, 0, 1, 62, 1, 1, 1, true), -1);
    due(x.part(0, MOST, 1, LEAST, 1, 1, 1, true), -1);
    due(x.part(3, 0, -1, 1, -1, 0, 0, true), -2);
    due(x.part(-1, 0, 1, 1, 1, 1, 1, true), -2);
    due(x.part(0, 0, -1, 1, 201, 1001, 1, true), -4);
    due(x.part(0, 0, 201, 1, -1, 1, 1, true), -4);
    due(x.part(0, 0, 1, 1, 1, 0, 1001, true), -4);
    due(x.part(0, 0, 1, 1, 1, 1001, 0, true), -4);
    due(x.part(2, 0, 1, 1, 1, 0, 1, true), -4);
    due(x.part(1, 0, 0, 1, 1, 1, 1, true), -4);
    due(x.part(1, 0, 1, 1, 0, 1, 1, true), -4);
    due(x.part(1, 0, 0, 1, 201, 1, 1, true), -4);
    due(x.part(0, 0, 201, 1, 1, 1, 1, true), -6);
    due(x.part(0, 0, 1, 1, 201, 1, 1, true), -6);
    due(x.part(0, 0, 1, 1, 1, 1001, 1, true), -6);
    due(x.part(0, 0, 1, 1, 1, 1, 1001, true), -6);
    due(x.part(2, 0, 1, 1, 1, 1001, 1, true), -6);
    due(x.count(1), 0);
    due(x.count(11), 5);
    due(x.count(12), 2);
    due(x.count(14), 8);
    due(x.count(16), 5);
    due(x.part(1, 0, 1, 1, 200, LEAST, MOST, true), 0);
    due(x.part(2, 0, 0, 1, 0, 1000, LEAST, true), 1);
    due(x.partOf(1, 6), 1);
  }

  private static void partKinds() {
    RisingPage x = page(1000);
    due(x.part(1, 0, 97, 1, 65, 143, 146, false), 0);
    due(x.partOf(0, 5), 65);
    due(x.partOf(0, 6), 97);
    due(x.part(2, 0, 50, 1, 60, 55, 0, true), 1);
    due(x.partOf(1, 6), 55);
    due(x.part(2, 0, 1, 1, 1, 5, 0, true), 2);
    due(x.partOf(2, 6), 1);
    due(x.part(2, 0, 1000, 1, 1000, 999, 0, true), -6);
    due(x.part(2, 0, 1000, 1, 1000, 1000, 0, true), 3);
    due(x.partOf(3, 6), 1000);
    due(x.part(0, 0, 100, 1, 100, 120, 120, false), 4);
    due(x.part(2, 10, 120, 1, 100, 19, 0, true), 5);
    due(x.partOf(5, 6), 100);
    due(x.part(0, 10, 121, 11, 0, 1, 1, true), -6);
    due(x.part(0, 10, 0, 11, 121, 1, 1, true), -6);
    due(x.part(0, 0, 0, 1, 1000, 1, 1, true), 6);
    due(x.stuck(6), 0);
    due(x.part(2, 14, 1, 0, 1, 1, 0, true), -3);
    due(x.part(2, 0, 1, 15, 1, 1, 0, true), -3);
    due(x.part(2, 14, 1, 0, 1, 1001, 0, true), -6);
    due(x.part(0, 14, 1, 0, 1, 1, 1, true), 7);
    due(x.part(0, 2, 1, 3, 1, 1, 1, true), 8);
    due(x.free(8), 1);
    due(x.part(0, 18, 1, 0, 1, 1, 1, true), -1);
  }

  private static void partRoom() {
    RisingPage x = new RisingPage();
    for (int i = 0; i < 30; i++) due(x.part(0, 2 * i, 1, 2 * i + 1, 1, 5, 5, true), i);
    due(x.part(0, 60, 1, 61, 1, 1, 1, true), -6);
    due(x.free(29), 1);
    due(x.part(0, 0, 1, 1, 1, 1, 1, true), -6);
    due(x.part(0, 0, -1, 1, 1, 1, 1, true), -4);
    due(x.part(3, 0, 1, 1, 1, 1, 1, true), -2);
    due(x.part(0, 60, 1, 1, 1, 1, 1, true), -1);
    due(x.count(1), 30);
    due(x.count(2), 29);
    due(x.place(59, 5, 8, 0) < STUCK, true);
    x = new RisingPage();
    for (int i = 0; i < 30; i++) due(x.part(0, 0, 0, 1, 200, 1, 2, true), i);
    due(x.part(2, 2, 1, 0, 1, 1, 1, true), -6);
    due(x.count(13), 0);
  }

  private static void free() {
    RisingPage x = withBox(80, 80);
    due(x.part(0, 2, 40, 3, 40, 30, 30, true), 1);
    due(x.free(0), -3);
    due(x.free(2), -1);
    due(x.free(-1), -1);
    due(x.free(MOST), -1);
    due(x.free(1), 1);
    due(x.free(1), -1);
    due(x.place(4, 0, 8, 0), 1000000001);
    due(x.crease(1, 8, 0), 1000000001);
    due(x.miss(1, 8), -1);
    due(x.free(0), 1);
    due(x.count(2), 0);
    due(x.count(1), 2);
    due(x.part(1, 0, 1, 1, 1, 0, 0, false), 2);
    due(x.place(6, 1, 8, 1), 1);
  }

  private static void hinge() {
    RisingPage x = withBox(50, 30);
    due(x.hinge(1, true, 1), -1);
    due(x.hinge(-1, true, -1), -1);
    due(x.hinge(0, true, 0), -4);
    due(x.hinge(0, false, 0), -4);
    due(x.hinge(0, true, 201), -6);
    due(x.hinge(0, true, 40), 50);
    due(x.partOf(0, 2), 40);
    due(x.partOf(0, 6), 40);
    due(x.partOf(0, 5), 30);
    due(x.hinge(0, false, 200), 30);
    due(x.partOf(0, 4), 200);
    due(x.partOf(0, 5), 200);
    due(x.crease(0, 8, 0), 40);
    due(x.crease(0, 8, 1), 200);
    due(x.part(0, 0, 0, 1, 4, 2, 2, true), 1);
    due(x.hinge(1, false, -1), -4);
    due(x.hinge(1, false, 3), 4);
    due(x.hinge(1, false, 0), 3);
    due(x.partOf(1, 5), 2);
    due(x.partOf(1, 6), 2);
    due(x.part(2, 0, 50, 1, 60, 55, 0, true), 2);
    due(x.hinge(2, true, 40), 50);
    due(x.partOf(2, 6), 55);
    due(x.part(0, 2, 200, 0, 3, 9, 9, true), 3);
    due(x.hinge(3, true, 201), -6);
    due(x.hinge(3, false, 200), 3);
  }

  /** What hangs on a box follows it, even with a distance that its plane no longer has. */
  private static void hingeCarriesOthers() {
    RisingPage x = withBox(50, 50);
    due(x.part(0, 3, 50, 0, 100, 50, 50, true), 1);
    due(x.hinge(0, true, 10), 50);
    due(x.partOf(1, 2), 50);
    due(x.crease(0, 8, 0), 10);
    due(x.crease(1, 8, 0), 100);
    due(x.crease(1, 8, 1), 50);
    due(x.place(3, 10, 8, 0), 10);
    due(x.place(3, 11, 8, 0), 1000000006);
    due(x.hinge(1, true, 50), -6);
  }

  private static void crease() {
    RisingPage x = withBend(0, 3, 2, 2, true);
    due(x.crease(0, 8, 0), -1);
    due(x.crease(0, 8, 1), 2);
    due(x.crease(0, -1, 5), 1000000001);
    due(x.crease(0, 17, 0), 1000000001);
    due(x.crease(1, 8, 0), 1000000001);
    due(x.crease(0, 8, 2), 1000000002);
    due(x.crease(0, 8, -1), 1000000002);
    x = withBend(0, 3, 2, 2, false);
    due(x.crease(0, 8, 0), 1);
    due(x.crease(0, 8, 1), 2);
    x = withBend(10, 40, 20, 50, false);
    due(x.crease(0, 8, 0), 30);
    due(x.crease(0, 8, 1), 0);
    x = withBend(10, 40, 20, 50, true);
    due(x.crease(0, 8, 0), -8);
    due(x.crease(0, 8, 1), -9);
  }

  private static void creaseEdges() {
    RisingPage x = withBend(50, 50, 7, 7, true);
    due(x.crease(0, 0, 0), 57);
    due(x.crease(0, 0, 1), 0);
    due(withBend(50, 50, 7, 8, true).crease(0, 0, 0), STUCK);
    x = withBend(0, 4, 2, 2, true);
    due(x.crease(0, 8, 0), 0);
    due(x.crease(0, 8, 1), 2);
    due(withBend(0, 4, 1, 2, true).crease(0, 8, 1), STUCK);
    due(withBend(0, 4, 1, 2, true).crease(0, 8, 3), 1000000002);
    x = withBend(0, 2, 1, 3, true);
    due(x.crease(0, 8, 0), 0);
    due(x.crease(0, 8, 1), -1);
    due(withBend(0, 2, 1, 4, true).crease(0, 8, 1), STUCK);
    x = withBend(50, 52, 2, 2, false);
    due(x.crease(0, 0, 0), 51);
    due(x.crease(0, 0, 1), -1);
  }

  private static void place() {
    RisingPage x = page(1000);
    due(x.place(1, 1000, 5, 1), 832);
    due(x.place(1, 1000, 3, 0), 832);
    due(x.place(1, 1000, 13, 0), -831);
    due(x.place(1, 1, 1, 0), 1);
    due(x.place(1, 1, 1, 1), 0);
    due(x.place(0, 7, 13, 0), 7);
    due(x.place(0, 7, 13, 1), 0);
    int[] waysX = {1000, 981, 924, 832, 707, 556, 383, 195, 0, -195, -383, -556, -707, -831, -924, -981, -1000};
    int[] waysY = {0, 195, 383, 556, 707, 832, 924, 981, 1000, 981, 924, 832, 707, 556, 383, 195, 0};
    for (int step = 0; step <= 16; step++) {
      due(x.place(1, 1000, step, 0), waysX[step]);
      due(x.place(1, 1000, step, 1), waysY[step]);
    }
    due(x.place(2, -1, 17, 5), 1000000001);
    due(x.place(-1, 0, 0, 0), 1000000001);
    due(x.place(0, 0, -1, 0), 1000000001);
    due(x.place(0, -1, 0, 2), 1000000002);
    due(x.place(0, -1, 0, 0), 1000000004);
    due(x.place(0, 1001, 0, 0), 1000000006);
    due(x.count(11), 3);
    due(x.count(12), 1);
    due(x.count(14), 1);
    due(x.count(16), 1);
  }

  private static void placeOnAllWays() {
    int[] ways = {10000, 9808, 9239, 8315, 7071, 5556, 3827, 1951, 0};
    for (int step = 0; step <= 16; step++) {
      int wayX = step <= 8 ? ways[step] : -ways[16 - step];
      int wayY = ways[Math.abs(8 - step)];
      RisingPage x = page(1000);
      for (int n = 0; n <= 1000; n++) {
        // An object answers for 512 calls.
        if (n % 250 == 0) x = page(1000);
        due(x.place(1, n, step, 0), Math.floorDiv(2 * wayX * n + 10000, 20000));
        due(x.place(1, n, step, 1), Math.floorDiv(2 * wayY * n + 10000, 20000));
      }
    }
  }

  private static void placeOnFlats() {
    RisingPage x = withBend(0, 3, 2, 2, true);
    due(x.place(2, 0, 8, 1), 0);
    due(x.place(2, 1, 8, 0), 0);
    due(x.place(2, 1, 8, 1), 1);
    due(x.place(2, 2, 8, 0), -1);
    due(x.place(3, 0, 8, 1), 3);
    due(x.place(3, 1, 8, 0), 0);
    due(x.place(3, 1, 8, 1), 3);
    due(x.place(3, 2, 8, 1), 2);
    due(x.place(3, 3, 8, 1), 1000000006);
    x = withBend(0, 4, 1, 2, true);
    due(x.place(2, 0, 8, 0), STUCK);
    due(x.place(3, 2, 8, 0), STUCK);
    due(x.place(2, 2, 8, 0), 1000000006);
  }

  private static void miss() {
    RisingPage x = withBend(0, 3, 2, 2, true);
    due(x.miss(0, 8), 2);
    due(x.miss(0, 0), 2);
    due(x.miss(0, 17), -1);
    due(x.miss(0, -1), -1);
    due(x.miss(1, 0), -1);
    due(withBend(0, 4, 1, 2, true).miss(0, 8), 0);
    due(withBox(70, 40).miss(0, 8), 0);
    due(withBend(10, 40, 20, 50, true).miss(0, 8), 35);
  }

  private static void stuck() {
    RisingPage x = withBend(10, 10, 30, 31, true);
    due(x.stuck(0), 0);
    due(x.stuck(1), -1);
    due(x.stuck(-1), -1);
    due(withBox(50, 50).stuck(0), -9);
    x = withBend(100, 100, 20, 20, true);
    due(x.stuck(0), 3);
    due(x.part(0, 2, 1, 0, 100, 60, 60, true), 1);
    due(x.stuck(1), 3);
    due(x.crease(1, 2, 0) < STUCK, true);
    due(x.part(0, 0, 5, 4, 1, 100, 100, true), 2);
    due(x.crease(2, 3, 0), STUCK);
    due(x.crease(2, 16, 1), STUCK);
  }

  private static void out() {
    due(withBox(100, 100).out(0), 0);
    due(withBox(101, 100).out(0), 1);
    due(withBend(50, 52, 2, 2, true).out(0), 0);
    RisingPage x = withBend(50, 52, 3, 3, true);
    due(x.out(0), 1);
    due(x.tolerance(3), 2);
    due(x.out(0), 0);
    due(withBend(50, 52, 3, 3, false).out(0), 1);
    due(withBend(0, 200, 201, 1, true).out(16), 1);
    x = withBend(0, 200, 200, 1, true);
    due(x.out(16), 0);
    due(x.tolerance(0), 2);
    due(x.out(16), 1);
    due(x.out(17), -1);
    due(x.out(-1), -1);
    x = withBend(0, 3, 2, 2, true);
    due(x.out(8), 0);
    x = withBend(100, 101, 150, 150, false);
    due(x.out(0), 1);
    due(x.out(1), 0);
    due(x.out(15), 0);
    due(x.free(0), 1);
    due(x.out(0), 0);
    due(withBend(2, 1, 4, 6, true).out(0), 0);
    due(withBend(0, 1, 1, 2, true).crease(0, 0, 0), -1);
    due(withBend(0, 1, 1, 2, true).out(0), 1);
  }

  private static void meet() {
    RisingPage x = withBend(100, 20, 50, 78, true);
    due(x.meet(0, 3, 8), 1);
    due(x.meet(3, 0, 8), 1);
    due(x.meet(0, 2, 8), 0);
    due(x.meet(2, 3, 8), 0);
    due(x.meet(0, 1, 8), 0);
    due(x.meet(3, 3, 8), -1);
    due(x.meet(3, 4, 8), -1);
    due(x.meet(-1, 3, 8), -1);
    due(x.meet(0, 3, 17), -1);
    due(x.meet(0, 3, -1), -1);
    due(x.part(0, 0, 0, 1, 4, 1, 2, true), 1);
    due(x.meet(3, 4, 8), 0);
    due(x.free(0), 1);
    due(x.meet(0, 3, 8), -1);
    x = withBend(100, 20, 50, 78, false);
    due(x.meet(0, 3, 8), 0);
    due(x.meet(0, 2, 8), 0);
    due(x.meet(2, 0, 8), 0);
    x = withBend(100, 20, 50, 78, true);
    due(x.meet(0, 3, 8), 1);
    due(x.hinge(0, true, 200), 100);
    due(x.meet(0, 3, 8), 0);
    due(x.meet(3, 0, 8), 0);
    x = page(10);
    x.part(0, 0, 10, 1, 10, 21, 33, false);
    due(x.crease(0, 8, 1) < 0, true);
    due(x.meet(0, 3, 8), 0);
    due(x.meet(3, 0, 8), 0);
    due(withBend(10, 40, 20, 50, false).meet(0, 3, 8), 0);
  }

  private static void meets() {
    RisingPage x = page(1000);
    due(x.meets(0), -9);
    due(x.meets(2), -9);
    due(x.meets(3), -2);
    due(x.meets(-1), -2);
    x.part(0, 0, 90, 1, 60, 140, 150, true);
    due(x.meets(0), 1);
    due(x.meets(1), 0);
    due(x.meets(2), 3);
    due(x.meet(0, 3, 0), 0);
    x.free(0);
    due(x.meets(0), -9);
    due(x.meets(1), -9);
    x = page(400);
    x.part(1, 0, 60, 1, 60, 0, 0, false);
    x.part(0, 0, 100, 1, 90, 120, 110, true);
    x.part(0, 2, 30, 5, 50, 70, 70, false);
    int[] first = firstPair(x, 8);
    for (int what = 0; what < 3; what++) due(x.meets(what), first[what]);
  }

  private static int[] firstPair(RisingPage x, int planes) {
    for (int step = 0; step <= 16; step++) {
      for (int lesser = 0; lesser < planes; lesser++) {
        for (int greater = lesser + 1; greater < planes; greater++) {
          if (x.meet(lesser, greater, step) == 1) return new int[] {step, lesser, greater};
        }
      }
    }
    return new int[] {-9, -9, -9};
  }

  private static void tall() {
    RisingPage x = new RisingPage();
    due(x.tall(8), 0);
    due(x.tall(17), 1000000001);
    due(x.tall(-1), 1000000001);
    x.part(0, 0, 10, 1, 40, 20, 50, true);
    due(x.tall(8), -9);
    x.part(0, 0, 0, 1, 4, 1, 2, true);
    due(x.tall(8), -9);
    x.part(0, 0, 0, 1, 3, 2, 2, true);
    due(x.tall(8), 2);
    x.part(1, 0, 9, 1, 44, 2, 2, false);
    due(x.tall(8), 44);
    x.free(3);
    due(x.tall(8), 2);
    x = withBend(0, 4, 1, 2, true);
    due(x.tall(8), 0);
  }

  private static void move() {
    RisingPage x = withBox(80, 80);
    due(x.move(0, 3), 12);
    due(x.move(0, 0), 18);
    due(x.move(0, 15), 18);
    due(x.move(0, 16), 1000000001);
    due(x.move(0, -1), 1000000001);
    due(x.move(1, 0), 1000000001);
    x = withBend(100, 100, 20, 20, true);
    due(x.move(0, 1) >= 0, true);
    due(x.move(0, 2), -1);
    due(x.move(0, 3), -1);
    x = withBend(10, 10, 30, 31, true);
    due(x.move(0, 0), -1);
  }

  private static void greatest() {
    RisingPage x = new RisingPage();
    due(x.greatest(), 0);
    x.part(0, 0, 0, 1, 200, 1, 2, true);
    due(x.greatest(), 0);
    x.part(0, 0, 100, 1, 100, 100, 100, true);
    x.part(1, 0, 150, 1, 120, 0, 0, false);
    int most = 0;
    for (int step = 0; step < 16; step++) most = Math.max(most, Math.max(x.move(1, step), x.move(2, step)));
    due(x.greatest(), most);
    due(x.free(1), 1);
    due(x.free(2), 1);
    due(x.greatest(), 0);
    x = page(1000);
    x.part(0, 0, 90, 1, 60, 140, 150, true);
    x.part(1, 0, 97, 1, 65, 143, 146, false);
    due(x.greatest(), 57);
  }

  private static void find() {
    RisingPage x = withBox(70, 40);
    due(x.find(0, false, 0, 8, 37, 0), 37);
    due(x.find(0, false, 0, 8, 37, 5), 32);
    due(x.find(0, false, 34, 8, 37, 5), 34);
    due(x.find(0, false, 43, 8, 37, 5), -9);
    due(x.find(0, false, 0, 8, 200, 0), 200);
    due(x.find(0, false, 200, 8, 200, 0), 200);
    due(x.find(0, false, 0, 8, 201, 0), -9);
    due(x.find(0, false, 0, 8, 0, 0), -9);
    due(x.find(0, false, 0, 8, 0, MOST), 1);
    due(x.find(0, true, 0, 8, 40, 0), 1);
    due(x.find(0, true, 9, 8, 40, 0), 9);
    due(x.find(0, false, 0, 8, LEAST, MOST), -9);
    due(x.find(0, false, 0, 8, MOST, 0), -9);
    due(x.find(1, false, -1, 8, 0, 0), -1);
    due(x.find(0, false, -1, 17, 0, 0), -1);
    due(x.find(0, false, -1, 8, 0, 0), -4);
    due(x.find(0, false, 201, 8, 0, -1), -4);
    due(x.find(0, false, 201, 8, 0, 0), -6);
    due(x.partOf(0, 2), 70);
    due(x.partOf(0, 4), 40);
    due(x.partOf(0, 5), 40);
    due(x.partOf(0, 6), 70);
    due(x.crease(0, 8, 0), 70);
    x = withBend(3, 4, 2, 2, true);
    due(x.find(0, true, 0, 8, 2, 0), 0);
    due(x.find(0, true, 1, 8, 2, 0), -9);
    due(x.crease(0, 8, 0), STUCK);
    x = new RisingPage();
    due(x.part(2, 0, 50, 1, 60, 55, 0, true), 0);
    due(x.find(0, true, 51, 16, 0, 0), -9);
    due(x.find(0, true, 50, 16, 0, 0), 50);
    x.part(0, 0, 9, 1, 9, 20, 30, true);
    x.part(0, 4, 3, 5, 3, 9, 9, true);
    due(x.find(2, true, 21, 8, 0, 5), -6);
    due(x.find(2, false, 31, 8, 0, 5), -6);
  }

  private static void even() {
    due(withBox(70, 70).even(0), true);
    due(withBox(72, 70).even(0), true);
    due(withBox(73, 70).even(0), false);
    due(withBox(70, 73).even(0), false);
    RisingPage x = withBox(73, 70);
    x.tolerance(3);
    due(x.even(0), true);
    due(x.even(1), false);
    due(x.even(-1), false);
    due(x.even(LEAST), false);
    due(x.count(11), 0);
    x.free(0);
    due(x.even(0), false);
    due(withBend(0, 4, 1, 2, true).even(0), false);
    x = withBend(10, 10, 30, 31, true);
    x.tolerance(100);
    due(x.stuck(0), 0);
    due(x.even(0), true);
    x = withBend(100, 100, 71, 71, true);
    due(x.stuck(0), 9);
    due(x.even(0), true);
  }

  private static void partOf() {
    RisingPage x = withBend(10, 20, 30, 40, true);
    int[] want = {0, 0, 10, 1, 20, 30, 40, 1, 1, 0};
    for (int what = 0; what < 10; what++) due(x.partOf(0, what), want[what]);
    due(x.partOf(0, 10), -2);
    due(x.partOf(0, -1), -2);
    due(x.partOf(1, 10), -1);
    due(x.partOf(-1, 0), -1);
    x.part(0, 2, 1, 3, 1, 5, 5, false);
    x.part(2, 1, 1, 3, 2, 5, 5, false);
    due(x.partOf(0, 9), 2);
    due(x.partOf(1, 7), 0);
    x.part(0, 4, 1, 1, 1, 5, 5, false);
    due(x.partOf(0, 9), x.count(1) - 2);
    due(x.partOf(1, 9), 1);
    int last = x.count(1) - 1;
    x.free(last);
    due(x.partOf(1, 9), 0);
    due(x.partOf(last, 8), 0);
    due(x.partOf(last, 1), 4);
    due(x.partOf(last, 5), 5);
    due(x.partOf(last, 9), 0);
  }

  private static void count() {
    RisingPage x = page(300);
    due(x.count(0), 300);
    x.part(0, 0, 100, 1, 100, 20, 20, true);
    x.part(0, 0, 100, 1, 100, 120, 120, true);
    x.part(0, 2, 1, 1, 3, 120, 120, true);
    due(x.count(1), 3);
    due(x.count(2), 3);
    due(x.count(4), 2);
    x.free(2);
    due(x.count(1), 3);
    due(x.count(2), 2);
    due(x.count(4), 1);
    due(x.count(3), 1);
    x.hinge(1, false, 120);
    due(x.count(3), 0);
    for (int what : new int[] {-1, 5, 6, 7, 8, 9, 10, 17, LEAST, MOST}) due(x.count(what), -9);
    int[] refused = new int[7];
    for (int why = 1; why < 7; why++) refused[why] = x.count(10 + why);
    x.free(9);
    x.crease(9, 0, 0);
    x.meets(9);
    x.width(5);
    x.tolerance(-1);
    x.place(0, MOST, 0, 0);
    x.find(0, true, MOST, 0, 0, 0);
    due(x.count(11), refused[1] + 2);
    due(x.count(12), refused[2] + 1);
    due(x.count(13), refused[3] + 1);
    due(x.count(14), refused[4] + 1);
    due(x.count(15), 0);
    due(x.count(16), refused[6] + 2);
  }

  public static void main(String[] args) {
    promise = 1; newObject();
    promise = 2; width();
    promise = 3; tolerance();
    promise = 4; partRefusals(); partKinds(); partRoom();
    promise = 5; free();
    promise = 6; hinge(); hingeCarriesOthers();
    promise = 7; crease(); creaseEdges();
    promise = 8; place(); placeOnAllWays(); placeOnFlats();
    promise = 9; miss();
    promise = 10; stuck();
    promise = 11; out();
    promise = 12; meet();
    promise = 13; meets();
    promise = 14; tall();
    promise = 15; move();
    promise = 16; greatest();
    promise = 17; find();
    promise = 18; even();
    promise = 19; partOf();
    promise = 20; count();
    System.out.println("promises: " + asked + " answers, " + wrong + " not as due");
    if (wrong != 0) System.exit(1);
  }
}
