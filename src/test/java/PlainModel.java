import java.math.BigInteger;
import java.util.ArrayList;
import java.util.List;

/**
 * The document once more, word by word and without any thrift: numbers without bounds, every place
 * worked out anew for every question. The random runs compare the class with it.
 */
final class PlainModel {
  private static final int[][] FIRST_WAYS = {
    {10000, 0}, {9808, 1951}, {9239, 3827}, {8315, 5556}, {7071, 7071}, {5556, 8315}, {3827, 9239}, {1951, 9808}, {0, 10000}
  };
  private static final int FAR = 1000000000;

  private record Spot(BigInteger x, BigInteger y) {
    BigInteger squareTo(Spot o) {
      return o.x.subtract(x).pow(2).add(o.y.subtract(y).pow(2));
    }
  }

  /** Null places: the plane is stuck. */
  private record Segment(Spot begin, Spot end) { }

  private static final class Piece {
    int kind, p, a, q, b, c, d;
    boolean side, there = true;

    Piece copy() {
      Piece o = new Piece();
      o.kind = kind; o.p = p; o.a = a; o.q = q; o.b = b; o.c = c; o.d = d; o.side = side; o.there = there;
      return o;
    }
  }

  private int width = 200;
  private int tol = 2;
  private List<Piece> pieces = new ArrayList<>();
  private final int[] refused = new int[7];

  private int no(int why) { refused[-why]++; return why; }
  private int noFar(int why) { return FAR - no(why); }
  private static boolean step(int s) { return s >= 0 && s <= 16; }
  private static Spot spot(long x, long y) { return new Spot(BigInteger.valueOf(x), BigInteger.valueOf(y)); }
  private static BigInteger big(long v) { return BigInteger.valueOf(v); }
  private boolean there(int n) { return n >= 0 && n < pieces.size() && pieces.get(n).there; }
  private boolean planeThere(int n) { return n == 0 || n == 1 || (n >= 2 && there((n - 2) / 2)); }

  private int size(int plane) {
    if (plane < 2) return width;
    Piece o = pieces.get((plane - 2) / 2);
    return plane % 2 == 0 ? o.c : o.d;
  }

  /** The greatest whole number that is at most num / den and a half. */
  private static BigInteger near(BigInteger num, BigInteger den) {
    BigInteger top = num.multiply(big(2)).add(den);
    BigInteger bottom = den.multiply(big(2));
    BigInteger rest = top.mod(bottom);
    return top.subtract(rest).divide(bottom);
  }

  private static int[] way(int plane, int s) {
    if (plane == 0) return new int[] {10000, 0};
    if (s <= 8) return FIRST_WAYS[s];
    return new int[] {-FIRST_WAYS[16 - s][0], FIRST_WAYS[16 - s][1]};
  }

  /** Where hinge a (0), hinge b (1) and the crease (2) of each of some pieces are; null where there is none. */
  private Spot[][] all(List<Piece> some, int s) {
    Spot[][] at = new Spot[some.size()][3];
    for (int i = 0; i < some.size(); i++) {
      Piece o = some.get(i);
      if (!o.there) continue;
      at[i][0] = on(some, at, o.p, o.a, s);
      at[i][1] = on(some, at, o.q, o.b, s);
      at[i][2] = fold(o, at[i][0], at[i][1]);
    }
    return at;
  }

  private Spot on(List<Piece> some, Spot[][] at, int plane, int n, int s) {
    if (plane < 2) {
      int[] w = way(plane, s);
      return new Spot(near(big((long) w[0] * n), big(10000)), near(big((long) w[1] * n), big(10000)));
    }
    int i = (plane - 2) / 2;
    Spot begin = at[i][plane % 2];
    Spot end = at[i][2];
    if (end == null) return null;
    BigInteger size = big(plane % 2 == 0 ? some.get(i).c : some.get(i).d);
    return new Spot(
      begin.x.add(near(end.x.subtract(begin.x).multiply(big(n)), size)),
      begin.y.add(near(end.y.subtract(begin.y).multiply(big(n)), size)));
  }

  private static Spot fold(Piece o, Spot a, Spot b) {
    if (a == null || b == null) return null;
    BigInteger cc = big((long) o.c * o.c);
    BigInteger dd = big((long) o.d * o.d);
    BigInteger square = a.squareTo(b);
    if (square.signum() == 0) return o.c == o.d ? new Spot(a.x.add(big(o.c)), a.y) : null;
    BigInteger e = cc.subtract(dd).add(square);
    BigInteger r = cc.multiply(square).multiply(big(4)).subtract(e.multiply(e));
    if (r.signum() < 0) return null;
    BigInteger s = r.sqrt();
    BigInteger x = b.x.subtract(a.x);
    BigInteger y = b.y.subtract(a.y);
    BigInteger leftX = o.side ? y.negate() : y;
    BigInteger leftY = o.side ? x : x.negate();
    BigInteger den = square.multiply(big(2));
    return new Spot(
      near(a.x.multiply(den).add(x.multiply(e)).add(leftX.multiply(s)), den),
      near(a.y.multiply(den).add(y.multiply(e)).add(leftY.multiply(s)), den));
  }

  private Spot creaseAt(int n, int s) { return all(pieces, s)[n][2]; }

  private int hanging(int n) {
    int many = 0;
    for (Piece o : pieces) {
      if (o.there && ((o.p - 2) / 2 == n && o.p >= 2 || (o.q - 2) / 2 == n && o.q >= 2)) many++;
    }
    return many;
  }

  private int standing() {
    int many = 0;
    for (Piece o : pieces) if (o.there) many++;
    return many;
  }

  int width(int v) {
    if (standing() != 0) return no(-3);
    if (v < 1) return no(-4);
    if (v > 1000) return no(-6);
    int was = width;
    width = v;
    return was;
  }

  int tolerance(int v) {
    if (v < 0) return no(-4);
    if (v > 100) return no(-6);
    int was = tol;
    tol = v;
    return was;
  }

  int part(int kind, int p, int a, int q, int b, int c, int d, boolean side) {
    if (!planeThere(p) || !planeThere(q) || p == q) return no(-1);
    if (kind != 0 && kind != 1 && kind != 2) return no(-2);
    if (a < 0 || b < 0) return no(-4);
    if (kind == 1 && (a == 0 || b == 0)) return no(-4);
    if (kind != 1 && c < 1) return no(-4);
    if (kind == 0 && d < 1) return no(-4);
    if (a > size(p) || b > size(q)) return no(-6);
    if (kind != 1 && c > 1000) return no(-6);
    if (kind == 0 && d > 1000) return no(-6);
    if (pieces.size() == 30) return no(-6);
    Piece o = new Piece();
    o.kind = kind; o.p = p; o.a = a; o.q = q; o.b = b; o.side = side;
    o.c = kind == 1 ? b : c;
    o.d = kind == 1 ? a : d;
    if (kind == 2) {
      Spot[][] at = all(pieces, 16);
      Spot hingeA = on(pieces, at, p, a, 16);
      Spot hingeB = on(pieces, at, q, b, 16);
      if (hingeA == null || hingeB == null) return no(-3);
      o.d = Math.max(1, hingeA.squareTo(hingeB).sqrt().intValueExact() - c);
      if (o.d > 1000) return no(-6);
    }
    pieces.add(o);
    return pieces.size() - 1;
  }

  int free(int n) {
    if (!there(n)) return no(-1);
    if (hanging(n) != 0) return no(-3);
    pieces.get(n).there = false;
    return 1;
  }

  private static void setHinge(Piece o, boolean first, int v) {
    if (first) o.a = v; else o.b = v;
    if (o.kind == 1) { o.c = o.b; o.d = o.a; }
  }

  int hinge(int n, boolean first, int v) {
    if (!there(n)) return no(-1);
    Piece o = pieces.get(n);
    if (v < 0 || (o.kind == 1 && v < 1)) return no(-4);
    if (v > size(first ? o.p : o.q)) return no(-6);
    int was = first ? o.a : o.b;
    setHinge(o, first, v);
    return was;
  }

  private static int told(Spot o, int what) {
    return o == null ? FAR : (what == 0 ? o.x : o.y).intValueExact();
  }

  int crease(int n, int s, int what) {
    if (!there(n) || !step(s)) return noFar(-1);
    if (what != 0 && what != 1) return noFar(-2);
    return told(creaseAt(n, s), what);
  }

  int place(int plane, int distance, int s, int what) {
    if (!planeThere(plane) || !step(s)) return noFar(-1);
    if (what != 0 && what != 1) return noFar(-2);
    if (distance < 0) return noFar(-4);
    if (distance > size(plane)) return noFar(-6);
    return told(on(pieces, all(pieces, s), plane, distance, s), what);
  }

  int miss(int n, int s) {
    if (!there(n) || !step(s)) return no(-1);
    Spot[] at = all(pieces, s)[n];
    if (at[2] == null) return 0;
    Piece o = pieces.get(n);
    BigInteger one = at[0].squareTo(at[2]).subtract(big((long) o.c * o.c)).abs();
    BigInteger two = at[1].squareTo(at[2]).subtract(big((long) o.d * o.d)).abs();
    return one.max(two).intValueExact();
  }

  private int firstStuck(int n) {
    for (int s = 0; s <= 16; s++) if (creaseAt(n, s) == null) return s;
    return -9;
  }

  int stuck(int n) { return there(n) ? firstStuck(n) : no(-1); }

  private int outside(int s) {
    if (s != 0 && s != 16) return 0;
    int many = 0;
    for (Spot[] at : all(pieces, s)) {
      if (at[2] == null) continue;
      int x = at[2].x.intValueExact();
      int y = at[2].y.intValueExact();
      boolean inside = x <= width && x >= (s == 0 ? 0 : -width) && y <= tol && y >= -tol;
      if (!inside) many++;
    }
    return many;
  }

  int out(int s) { return step(s) ? outside(s) : no(-1); }

  private Segment segment(Spot[][] at, int plane, int s) {
    if (plane < 2) return new Segment(spot(0, 0), on(pieces, at, plane, width, s));
    Spot[] o = at[(plane - 2) / 2];
    return new Segment(o[plane % 2], o[2]);
  }

  private static int turn(Spot a, Spot b, Spot c) {
    return b.x.subtract(a.x).multiply(c.y.subtract(a.y)).subtract(b.y.subtract(a.y).multiply(c.x.subtract(a.x))).signum();
  }

  private boolean cross(Spot[][] at, int plane, int other, int s) {
    Segment one = segment(at, plane, s);
    Segment two = segment(at, other, s);
    if (one.end == null || two.end == null) return false;
    return turn(one.begin, one.end, two.begin) * turn(one.begin, one.end, two.end) == -1
      && turn(two.begin, two.end, one.begin) * turn(two.begin, two.end, one.end) == -1;
  }

  int meet(int plane, int other, int s) {
    if (!planeThere(plane) || !planeThere(other) || plane == other || !step(s)) return no(-1);
    return cross(all(pieces, s), plane, other, s) ? 1 : 0;
  }

  int meets(int what) {
    if (what != 0 && what != 1 && what != 2) return no(-2);
    int planes = 2 + 2 * pieces.size();
    for (int s = 0; s <= 16; s++) {
      Spot[][] at = all(pieces, s);
      for (int i = 0; i < planes; i++) {
        for (int j = i + 1; j < planes; j++) {
          if (planeThere(i) && planeThere(j) && cross(at, i, j, s)) return new int[] {s, i, j}[what];
        }
      }
    }
    return -9;
  }

  int tall(int s) {
    if (!step(s)) return noFar(-1);
    Integer most = null;
    for (Spot[] at : all(pieces, s)) {
      if (at[2] != null && (most == null || at[2].y.intValueExact() > most)) most = at[2].y.intValueExact();
    }
    return most == null ? 0 : most;
  }

  private int moved(int n, int s) {
    Spot from = creaseAt(n, s);
    Spot to = creaseAt(n, s + 1);
    if (from == null || to == null) return -1;
    return to.x.subtract(from.x).abs().max(to.y.subtract(from.y).abs()).intValueExact();
  }

  int move(int n, int s) {
    if (!there(n) || !step(s) || s == 16) return noFar(-1);
    return moved(n, s);
  }

  int greatest() {
    int most = 0;
    for (int n = 0; n < pieces.size(); n++) {
      for (int s = 0; s < 16; s++) if (there(n)) most = Math.max(most, moved(n, s));
    }
    return most;
  }

  int find(int n, boolean first, int v, int s, int height, int within) {
    if (!there(n) || !step(s)) return no(-1);
    if (v < 0 || within < 0) return no(-4);
    Piece o = pieces.get(n);
    int size = size(first ? o.p : o.q);
    if (v > size) return no(-6);
    Spot[][] at = all(pieces, s);
    for (int distance = v; distance <= size; distance++) {
      if (o.kind == 1 && distance == 0) continue;
      Piece tried = o.copy();
      setHinge(tried, first, distance);
      Spot x = fold(tried, on(pieces, at, tried.p, tried.a, s), on(pieces, at, tried.q, tried.b, s));
      if (x != null && x.y.subtract(big(height)).abs().compareTo(big(within)) <= 0) return distance;
    }
    return -9;
  }

  boolean even(int n) {
    if (!there(n)) return false;
    Spot x = creaseAt(n, 8);
    return x != null && x.x.subtract(x.y).abs().intValueExact() <= tol;
  }

  int partOf(int n, int what) {
    if (n < 0 || n >= pieces.size()) return no(-1);
    if (what < 0 || what > 9) return no(-2);
    Piece o = pieces.get(n);
    return new int[] {o.kind, o.p, o.a, o.q, o.b, o.c, o.d, o.side ? 1 : 0, o.there ? 1 : 0, hanging(n)}[what];
  }

  int count(int what) {
    if (what == 0) return width;
    if (what == 1) return pieces.size();
    if (what == 2) return standing();
    if (what == 3) return outside(0) == 0 ? 1 : 0;
    if (what == 4) {
      int many = 0;
      for (int n = 0; n < pieces.size(); n++) if (there(n) && firstStuck(n) != -9) many++;
      return many;
    }
    return what >= 11 && what <= 16 ? refused[what - 10] : -9;
  }
}
