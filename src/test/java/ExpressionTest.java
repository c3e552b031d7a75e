import java.math.BigInteger;
import java.util.ArrayList;
import java.util.List;

/**
 * Expressions of all arithmetic types with side effects: they are made up, told as C text, and worked out here as
 * sections 6 and 8 tell. What they write and how they end must be the same.
 */
public final class ExpressionTest {
  private static final int PROGRAMS = 300;
  private static final int EXPRESSIONS = 8;
  // Types in the order of the usual conversion, and what is smaller.
  private static final int CHAR = 0;
  private static final int UCHAR = 1;
  private static final int SHORT = 2;
  private static final int USHORT = 3;
  private static final int INT = 4;
  private static final int UINT = 5;
  private static final int LLONG = 6;
  private static final int ULLONG = 7;
  private static final int FLOAT = 8;
  private static final int DOUBLE = 9;
  private static final String[] NAMES = {"char", "unsigned char", "short", "unsigned short", "int", "unsigned", "long long", "unsigned long long", "float", "double"};
  private static final int[] SIZES = {1, 1, 2, 2, 4, 4, 8, 8, 4, 8};
  private static final String[] BINARY = {"*", "/", "%", "+", "-", "<<", ">>", "<", ">", "<=", ">=", "==", "!=", "&", "^", "|"};
  private static final String[] COMPOUND = {"*", "/", "%", "+", "-", "<<", ">>", "&", "^", "|"};

  private long state = 0x1234567887654321L;

  public static void main(String[] args) {
    ExpressionTest test = new ExpressionTest();
    for (int i = 0; i < PROGRAMS; i++) {
      test.program(i);
    }
    Bench.finish();
  }

  private int random(int below) {
    state ^= state << 13;
    state ^= state >>> 7;
    state ^= state << 17;
    return (int) ((state >>> 1) % below);
  }

  /** A place: a variable or a bit-field, with its type, its width (0: no bit-field) and what is there. */
  private static final class Place {
    final String name;
    final int type;
    final int width;
    Object value;

    Place(String name, int type, int width) {
      this.name = name;
      this.type = type;
      this.width = width;
      value = isReal(type) ? (Object) 0.0 : (Object) 0L;
    }
  }

  private static final class Trap extends RuntimeException {
    final int what;

    Trap(int what) {
      super(null, null, false, false);
      this.what = what;
    }
  }

  /** An expression: its text, its type, whether it is a bit-field as it stands, and how it is worked out. */
  private abstract static class Node {
    String text;
    int type;
    Place field;

    abstract Object work();
  }

  private List<Place> places;

  private static boolean isReal(int type) {
    return type >= FLOAT;
  }

  private static long cut(int type, long x) {
    switch (type) {
      case CHAR: return (byte) x;
      case UCHAR: return x & 255;
      case SHORT: return (short) x;
      case USHORT: return x & 65535;
      case INT: return (int) x;
      case UINT: return x & 0xffffffffL;
      default: return x;
    }
  }

  private static BigInteger big(int type, long x) {
    BigInteger b = BigInteger.valueOf(x);
    return type == ULLONG && x < 0 ? b.add(BigInteger.ONE.shiftLeft(64)) : b;
  }

  private static Object cast(Object x, int from, int to) {
    if (isReal(to)) {
      if (isReal(from)) {
        return to == FLOAT ? (Object) (double) (float) (double) (Double) x : x;
      }
      BigInteger b = big(from, (Long) x);
      return to == FLOAT ? (Object) (double) b.floatValue() : (Object) b.doubleValue();
    }
    if (!isReal(from)) {
      return cut(to, (Long) x);
    }
    double d = (Double) x;
    if (Double.isInfinite(d)) {
      throw new Trap(5);
    }
    BigInteger b = new java.math.BigDecimal(d).toBigInteger();
    int bits = 8 * SIZES[to];
    boolean unsigned = (to & 1) == 1;
    BigInteger least = unsigned ? BigInteger.ZERO : BigInteger.ONE.shiftLeft(bits - 1).negate();
    BigInteger most = BigInteger.ONE.shiftLeft(unsigned ? bits : bits - 1).subtract(BigInteger.ONE);
    if (b.compareTo(least) < 0 || b.compareTo(most) > 0) {
      throw new Trap(5);
    }
    return b.longValue();
  }

  private static int promoted(int type) {
    return Math.max(type, INT);
  }

  /** The type of an operand as a value: bit-fields are promoted. */
  private static int valueType(Node n) {
    if (n.field != null) {
      return n.field.type == UINT && n.field.width == 32 ? UINT : INT;
    }
    return n.type;
  }

  private static int usual(int a, int b) {
    return Math.max(promoted(a), promoted(b));
  }

  private static Object operate(String sign, Object a, int typeA, Object b, int typeB) {
    if (sign.equals("<<") || sign.equals(">>")) {
      int type = promoted(typeA);
      long x = (Long) cast(a, typeA, type);
      BigInteger count = big(promoted(typeB), (Long) cast(b, typeB, promoted(typeB)));
      int width = 8 * SIZES[type];
      if (count.signum() < 0 || count.compareTo(BigInteger.valueOf(width)) >= 0) {
        throw new Trap(4);
      }
      int n = count.intValue();
      return cut(type, sign.equals("<<") ? x << n : big(type, x).shiftRight(n).longValue());
    }
    int type = usual(typeA, typeB);
    Object x = cast(a, typeA, type);
    Object y = cast(b, typeB, type);
    if (isReal(type)) {
      return operateReal(sign, (Double) x, (Double) y, type);
    }
    BigInteger p = big(type, (Long) x);
    BigInteger q = big(type, (Long) y);
    if ((sign.equals("/") || sign.equals("%")) && q.signum() == 0) {
      throw new Trap(3);
    }
    switch (sign) {
      case "*": return cut(type, p.multiply(q).longValue());
      case "/": return cut(type, p.divide(q).longValue());
      case "%": return cut(type, p.remainder(q).longValue());
      case "+": return cut(type, p.add(q).longValue());
      case "-": return cut(type, p.subtract(q).longValue());
      case "&": return cut(type, p.and(q).longValue());
      case "^": return cut(type, p.xor(q).longValue());
      case "|": return cut(type, p.or(q).longValue());
      default: return compared(sign, p.compareTo(q));
    }
  }

  private static Object compared(String sign, int order) {
    switch (sign) {
      case "<": return order < 0 ? 1L : 0L;
      case ">": return order > 0 ? 1L : 0L;
      case "<=": return order <= 0 ? 1L : 0L;
      case ">=": return order >= 0 ? 1L : 0L;
      case "==": return order == 0 ? 1L : 0L;
      default: return order != 0 ? 1L : 0L;
    }
  }

  private static Object operateReal(String sign, double x, double y, int type) {
    double r;
    switch (sign) {
      case "*": r = type == FLOAT ? (float) x * (float) y : x * y; break;
      case "/": r = type == FLOAT ? (float) x / (float) y : x / y; break;
      case "+": r = type == FLOAT ? (float) x + (float) y : x + y; break;
      case "-": r = type == FLOAT ? (float) x - (float) y : x - y; break;
      default: return compared(sign, x == y ? 0 : x < y ? -1 : 1);
    }
    if (Double.isNaN(r)) {
      throw new Trap(6);
    }
    return r;
  }

  private static int resultType(String sign, int a, int b) {
    if (sign.equals("<<") || sign.equals(">>")) {
      return promoted(a);
    }
    return "< > <= >= == !=".contains(sign) && !sign.equals("=") ? INT : usual(a, b);
  }

  private static boolean truth(Object x) {
    return x instanceof Double ? (Double) x != 0 : (Long) x != 0;
  }

  /** Puts a value that was cast to the type into a place; what is there then. */
  private static Object store(Place place, Object x) {
    Object kept = x;
    if (place.width > 0) {
      long bits = (Long) x << 64 - place.width;
      kept = place.type == INT ? bits >> 64 - place.width : bits >>> 64 - place.width;
    } else if (place.type == FLOAT) {
      kept = (double) (float) (double) (Double) x;
    }
    place.value = kept;
    return kept;
  }

  // Making expressions up.

  private Node expression(int depth) {
    if (depth <= 0) {
      return random(2) == 0 ? constant() : read(place());
    }
    switch (random(16)) {
      case 0: return constant();
      case 1: case 2: return read(place());
      case 3: case 4: case 5: case 6: return binary(depth);
      case 7: return unary(depth);
      case 8: return assignment(depth);
      case 9: return compound(depth);
      case 10: return step();
      case 11: return logical(depth);
      case 12: return choice(depth);
      case 13: return comma(depth);
      case 14: return castOf(depth);
      default: return random(3) == 0 ? sizeOf(depth) : call(depth);
    }
  }

  private Place place() {
    return places.get(random(places.size()));
  }

  private Node constant() {
    String[][] some = {{"0", "4"}, {"1", "4"}, {"7", "4"}, {"31", "4"}, {"32", "4"}, {"2147483647", "4"}, {"255", "4"}, {"65536", "4"}, {"3u", "5"}, {"4294967295u", "5"}, {"2147483648u", "5"}, {"5ll", "6"}, {"9223372036854775807ll", "6"}, {"4294967296ll", "6"}, {"2ull", "7"},
        {"18446744073709551615ull", "7"}, {"9223372036854775808ull", "7"}, {"'a'", "4"}, {"'\\377'", "4"}, {"1.5", "9"}, {"0.0", "9"}, {"3.0", "9"}, {"100.25", "9"}, {"0.5f", "8"}, {"16777216.0f", "8"}, {"1e10", "9"}, {"1e30f", "8"}};
    String[] one = some[random(some.length)];
    int type = Integer.parseInt(one[1]);
    Object value;
    if (isReal(type)) {
      value = type == FLOAT ? (Object) (double) Float.parseFloat(one[0]) : (Object) Double.parseDouble(one[0]);
    } else if (one[0].charAt(0) == '\'') {
      value = one[0].equals("'a'") ? 97L : -1L;
    } else {
      value = Long.parseUnsignedLong(one[0].replaceAll("[ul]", ""));
    }
    return node(one[0], type, null, () -> value);
  }

  /** How a node is worked out. */
  private interface Work {
    Object now();
  }

  private static Node node(String text, int type, Place field, Work work) {
    Node n = new Node() {
      Object work() {
        return work.now();
      }
    };
    n.text = text;
    n.type = type;
    n.field = field;
    return n;
  }

  private Node read(Place p) {
    return node(p.name, p.type, p.width > 0 ? p : null, () -> p.value);
  }

  private Node binary(int depth) {
    Node a = expression(depth - 1);
    Node b = expression(depth - 1);
    String sign = BINARY[random(BINARY.length)];
    boolean integers = "% << >> & ^ |".contains(sign) && !sign.equals("<") && !sign.equals(">");
    if (integers && (isReal(valueType(a)) || isReal(valueType(b)))) {
      sign = "+";
    }
    if (sign.equals("<<") || sign.equals(">>")) {
      Node count = b;
      // Mostly a count that fits.
      if (random(4) != 0) {
        b = node("(" + count.text + " & 15)", usual(valueType(count), INT), null, () -> operate("&", count.work(), valueType(count), 15L, INT));
      }
    }
    int typeA = valueType(a);
    int typeB = valueType(b);
    String known = sign;
    Node right = b;
    return node("(" + a.text + " " + sign + " " + b.text + ")", resultType(sign, typeA, typeB), null, () -> {
      Object x = a.work();
      Object y = right.work();
      return operate(known, x, typeA, y, typeB);
    });
  }

  private Node unary(int depth) {
    Node a = expression(depth - 1);
    int type = valueType(a);
    switch (random(4)) {
      case 0: return node("(+" + a.text + ")", promoted(type), null, () -> cast(a.work(), type, promoted(type)));
      case 1:
        return node("(- " + a.text + ")", promoted(type), null, () -> {
          Object x = cast(a.work(), type, promoted(type));
          return x instanceof Double ? (Object) (-(Double) x) : (Object) cut(promoted(type), -(Long) x);
        });
      case 2:
        if (!isReal(type)) {
          return node("(~" + a.text + ")", promoted(type), null, () -> cut(promoted(type), ~(Long) cast(a.work(), type, promoted(type))));
        }
        return a;
      default: return node("(!" + a.text + ")", INT, null, () -> truth(a.work()) ? 0L : 1L);
    }
  }

  private Node assignment(int depth) {
    Place p = place();
    Node a = expression(depth - 1);
    return node("(" + p.name + " = " + a.text + ")", p.type, null, () -> store(p, cast(a.work(), valueType(a), p.type)));
  }

  private Node compound(int depth) {
    Place p = place();
    Node a = expression(depth - 1);
    String sign = COMPOUND[random(COMPOUND.length)];
    int from = p.width > 0 ? valueType(read(p)) : p.type;
    boolean integers = "% << >> & ^ |".contains(sign);
    if (integers && (isReal(p.type) || isReal(valueType(a)))) {
      sign = "-";
    }
    String known = sign;
    int to = resultType(sign, from, valueType(a));
    return node("(" + p.name + " " + sign + "= " + a.text + ")", p.type, null, () -> {
      Object x = p.value;
      Object y = a.work();
      return store(p, cast(operate(known, x, from, y, valueType(a)), to, p.type));
    });
  }

  private Node step() {
    Place p = place();
    boolean up = random(2) == 0;
    boolean behind = random(2) == 0;
    String sign = up ? "++" : "--";
    int from = p.width > 0 ? valueType(read(p)) : p.type;
    return node("(" + (behind ? p.name + sign : sign + p.name) + ")", p.type, null, () -> {
      Object before = p.value;
      Object after = operate(up ? "+" : "-", before, from, 1L, INT);
      Object kept = store(p, cast(after, resultType("+", from, INT), p.type));
      return behind ? before : kept;
    });
  }

  private Node logical(int depth) {
    Node a = expression(depth - 1);
    Node b = expression(depth - 1);
    boolean and = random(2) == 0;
    return node("(" + a.text + (and ? " && " : " || ") + b.text + ")", INT, null, () -> {
      boolean x = truth(a.work());
      return (and ? x && truth(b.work()) : x || truth(b.work())) ? 1L : 0L;
    });
  }

  private Node choice(int depth) {
    Node a = expression(depth - 1);
    Node b = expression(depth - 1);
    Node c = expression(depth - 1);
    int type = usual(valueType(b), valueType(c));
    return node("(" + a.text + " ? " + b.text + " : " + c.text + ")", type, null,
        () -> truth(a.work()) ? cast(b.work(), valueType(b), type) : cast(c.work(), valueType(c), type));
  }

  private Node comma(int depth) {
    Node a = expression(depth - 1);
    Node b = expression(depth - 1);
    return node("(" + a.text + ", " + b.text + ")", valueType(b), null, () -> {
      a.work();
      return b.work();
    });
  }

  private Node castOf(int depth) {
    Node a = expression(depth - 1);
    int type = random(10);
    return node("((" + NAMES[type] + ")" + a.text + ")", type, null, () -> cast(a.work(), valueType(a), type));
  }

  private Node sizeOf(int depth) {
    Node a = expression(depth - 1);
    int type = a.field != null ? INT : a.type;
    String text = a.field != null ? "sizeof(+" + a.text + ")" : "sizeof(" + a.text + ")";
    return node(text, UINT, null, () -> (long) SIZES[type]);
  }

  /** Functions: f answers its arguments' sum in its own type, and remembers that it was called. */
  private Node call(int depth) {
    int which = random(FUNCTIONS.length);
    int[] f = FUNCTIONS[which];
    Node a = expression(depth - 1);
    Node b = expression(depth - 1);
    return node("f" + which + "(" + a.text + ", " + b.text + ")", f[0], null, () -> {
      Object x = cast(a.work(), valueType(a), f[1]);
      Object y = cast(b.work(), valueType(b), f[2]);
      return cast(operate("+", x, f[1], y, f[2]), usual(f[1], f[2]), f[0]);
    });
  }

  private static final int[][] FUNCTIONS = {{INT, INT, INT}, {CHAR, LLONG, UCHAR}, {UINT, SHORT, UINT}, {DOUBLE, FLOAT, INT}, {FLOAT, DOUBLE, CHAR}, {ULLONG, UINT, LLONG}, {USHORT, USHORT, SHORT}, {LLONG, ULLONG, INT}};

  private static String functions() {
    StringBuilder c = new StringBuilder();
    for (int i = 0; i < FUNCTIONS.length; i++) {
      int[] f = FUNCTIONS[i];
      c.append(NAMES[f[0]]).append(" f").append(i).append("(").append(NAMES[f[1]]).append(" x, ").append(NAMES[f[2]]).append(" y) { return x + y; }\n");
    }
    return c.toString();
  }

  private static String told(int type, Object value) {
    return isReal(type) ? Long.toHexString(Double.doubleToRawLongBits((Double) value)) : Long.toString((Long) value);
  }

  private void program(int number) {
    boolean local = number % 2 == 1;
    places = new ArrayList<>();
    StringBuilder declared = new StringBuilder();
    for (int type = 0; type < NAMES.length; type++) {
      places.add(new Place("v" + type, type, 0));
      declared.append(NAMES[type]).append(" v").append(type).append(" = 0; ");
    }
    int[][] fields = {{INT, 5}, {UINT, 7}, {UINT, 32}, {INT, 32}, {UINT, 1}, {INT, 1}, {UINT, 31}, {INT, 20}};
    declared.append("struct { ");
    for (int i = 0; i < fields.length; i++) {
      places.add(new Place("s.b" + i, fields[i][0], fields[i][1]));
      declared.append(NAMES[fields[i][0]]).append(" b").append(i).append(" : ").append(fields[i][1]).append("; ");
    }
    declared.append("} s = { 0 }; double r;\n");
    StringBuilder c = new StringBuilder(functions());
    c.append(local ? "" : declared).append("int main(void) {\n").append(local ? declared : "");
    StringBuilder want = new StringBuilder();
    int trap = 0;
    int line = 0;
    for (int i = 0; i < EXPRESSIONS; i++) {
      Node e = expression(4);
      int type = valueType(e);
      String text = isReal(type) ? "r = " + e.text + "; printf(\"%llx \", *(long long *)&r);\n"
          : "printf(\"%lld \", (long long)" + e.text + ");\n";
      c.append(text);
      if (trap == 0) {
        try {
          Object x = e.work();
          want.append(isReal(type) ? told(DOUBLE, x) : told(LLONG, cast(x, type, LLONG))).append(' ');
        } catch (Trap t) {
          trap = t.what;
          line = i;
        }
      }
    }
    c.append("return 3; }\n");
    String all = c.toString();
    int before = (int) all.substring(0, all.indexOf("main(void) {\n") + 13).chars().filter(x -> x == '\n').count() + (local ? 1 : 0);
    Bench b = new Bench().source(all).runs(all, 100000, trap, trap == 0 ? 0 : before + line + 1);
    Bench.due(all, b.wrote(2), want.toString());
  }
}
