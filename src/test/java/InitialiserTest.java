import java.util.ArrayList;
import java.util.List;

/**
 * Initialisers of types with arrays, structs, unions and bit-fields are made up, part by part along the places that
 * section 6 tells of; the bytes of the object, of the unit and on the stack, must be those that were put in.
 */
public final class InitialiserTest {
  private static final int TEXTS = 900;
  private static final String[] SCALARS = {"char", "unsigned char", "short", "unsigned short", "int", "unsigned", "long long", "unsigned long long"};
  private static final int[] SIZES = {1, 1, 2, 2, 4, 4, 8, 8};

  private long state = 6022140760L;
  private final List<Type> records = new ArrayList<>();
  private final StringBuilder declared = new StringBuilder();
  private byte[] bytes = new byte[4096];
  private boolean tooMany;
  private int longest;

  public static void main(String[] args) {
    InitialiserTest test = new InitialiserTest();
    for (int i = 0; i < TEXTS; i++) {
      test.text();
    }
    Bench.finish();
  }

  private int random(int below) {
    state ^= state << 13;
    state ^= state >>> 7;
    state ^= state << 17;
    return (int) ((state >>> 1) % below);
  }

  /** A scalar, an array or a record; a member is a bit-field if it has a width. */
  private static final class Type {
    char kind;
    int number;
    int length;
    Type element;
    String name;
    boolean union;
    int size;
    int alignment;
    final List<String> names = new ArrayList<>();
    final List<Type> types = new ArrayList<>();
    final List<Integer> offsets = new ArrayList<>();
    final List<Integer> widths = new ArrayList<>();
    final List<Integer> shifts = new ArrayList<>();
    /** An object of this type with known bytes. */
    String object;
    byte[] worth;
  }

  private static Type scalar(int number) {
    Type t = new Type();
    t.kind = 's';
    t.number = number;
    t.size = SIZES[number];
    t.alignment = Math.min(t.size, 4);
    return t;
  }

  private static Type array(Type element, int length) {
    Type t = new Type();
    t.kind = 'a';
    t.element = element;
    t.length = length;
    t.size = element.size * length;
    t.alignment = element.alignment;
    return t;
  }

  private Type type(int depth) {
    int kind = random(6);
    if (depth > 0 && kind < 2) {
      Type element = type(depth - 1);
      if (element.size < 60) {
        return array(element, 1 + random(4));
      }
    }
    if (kind < 4 && !records.isEmpty() && depth > 0) {
      return records.get(random(records.size()));
    }
    return scalar(random(SCALARS.length));
  }

  private static String tell(Type t, String inner) {
    return t.kind == 'a' ? tell(t.element, inner + "[" + (t.length > 0 ? "" + t.length : "") + "]") : (t.kind == 's' ? SCALARS[t.number] : t.name) + " " + inner;
  }

  private void record(int number) {
    Type t = new Type();
    t.kind = 'r';
    t.union = random(6) == 0;
    t.name = (t.union ? "union U" : "struct S") + number;
    t.alignment = 1;
    StringBuilder s = new StringBuilder(t.name + " { ");
    int unit = -1;
    int used = 0;
    int count = 1 + random(4);
    for (int i = 0; i < count; i++) {
      if (random(4) == 0) {
        int width = random(9) == 0 ? 0 : 1 + random(32);
        boolean named = width > 0 && random(4) != 0;
        boolean signed = random(2) == 0;
        s.append(signed ? "int " : "unsigned ").append(named ? "m" + i : "").append(" : ").append(width).append("; ");
        if (width == 0) {
          unit = -1;
          continue;
        }
        if (t.union || unit < 0 || used + width > 32) {
          unit = t.union ? 0 : (t.size + 3) / 4 * 4;
          used = 0;
          t.size = Math.max(t.size, unit + 4);
          t.alignment = 4;
        }
        if (named) {
          member(t, "m" + i, scalar(signed ? 4 : 5), unit, width, used);
        }
        used += t.union ? 0 : width;
      } else {
        Type m = type(2);
        s.append(tell(m, "m" + i)).append("; ");
        int at = t.union ? 0 : (t.size + m.alignment - 1) / m.alignment * m.alignment;
        member(t, "m" + i, m, at, 0, 0);
        t.size = Math.max(t.size, at + m.size);
        t.alignment = Math.max(t.alignment, m.alignment);
        unit = -1;
      }
    }
    if (t.names.isEmpty()) {
      return;
    }
    t.size = (t.size + t.alignment - 1) / t.alignment * t.alignment;
    declared.append(s).append("};\n");
    records.add(t);
  }

  private static void member(Type t, String name, Type type, int offset, int width, int shift) {
    t.names.add(name);
    t.types.add(type);
    t.offsets.add(offset);
    t.widths.add(width);
    t.shifts.add(shift);
  }

  /** Where the next part goes: what is gone into, where that lies, which element or member. */
  private static final class Step {
    final Type in;
    final int offset;
    int index;

    Step(Type in, int offset, int index) {
      this.in = in;
      this.offset = offset;
      this.index = index;
    }

    boolean atEnd() {
      int count = in.kind == 'a' ? in.length > 0 ? in.length : 100000 : in.union ? 1 : in.names.size();
      return in.union ? index < 0 : index >= count;
    }

    Type type() {
      return in.kind == 'a' ? in.element : in.types.get(index);
    }

    int place() {
      return in.kind == 'a' ? offset + index * in.element.size : offset + in.offsets.get(index);
    }

    void advance() {
      index = in.union ? -1 : index + 1;
    }
  }

  private void putBits(Step step, long value) {
    int width = step.in.widths.get(step.index);
    int shift = step.in.shifts.get(step.index);
    int at = step.place();
    long unit = 0;
    for (int i = 3; i >= 0; i--) {
      unit = unit << 8 | bytes[at + i] & 255;
    }
    long mask = (1L << width) - 1 << shift;
    unit = unit & ~mask | value << shift & mask;
    put(at, 4, unit);
  }

  private void put(int at, int size, long value) {
    for (int i = 0; i < size; i++) {
      bytes[at + i] = (byte) (value >> 8 * i);
    }
  }

  private String number(Step step, Type t, int at) {
    long value = random(3) == 0 ? random(1 << 30) - (1 << 29) : random(300) - 100;
    if (step != null && step.in.kind == 'r' && step.in.widths.get(step.index) > 0) {
      putBits(step, value);
    } else {
      put(at, t.size, value);
    }
    return "" + value;
  }

  private static boolean isText(Type t) {
    return t.kind == 'a' && t.element.kind == 's' && t.element.number < 2;
  }

  private String string(Type t, int at, int length) {
    int n = length > 0 ? random(length + 1) : random(5);
    StringBuilder s = new StringBuilder("\"");
    // Where there is no room for the 0 it is left out.
    for (int i = 0; i < (length > 0 ? length : n + 1); i++) {
      int c = i < n ? 'a' + random(26) : 0;
      bytes[at + i] = (byte) c;
      s.append(i < n ? "" + (char) c : "");
    }
    if (t.length == 0) {
      longest = n + 1;
    }
    return s.append("\"").toString();
  }

  /** Puts one part where the last step stands; goes into it as far as the part does not fit it. */
  private String part(List<Step> path, int depth, boolean gone) {
    Step step = path.get(path.size() - 1);
    Type t = step.type();
    int kind = random(10);
    String told;
    if (t.kind == 's') {
      told = number(step, t, step.place());
      // What has { } is for the place itself, and goes no further in.
      if (kind == 0 && !gone) {
        told = "{ " + told + " }";
      }
    } else if (isText(t) && kind < 4) {
      told = string(t, step.place(), t.length);
      told = kind == 0 && !gone ? "{ " + told + " }" : told;
    } else if (t.kind == 'r' && t.object != null && kind < 3) {
      System.arraycopy(t.worth, 0, bytes, step.place(), t.size);
      told = t.object;
    } else if (kind < 7 && depth < 5 && !gone) {
      told = braces(t, step.place(), depth + 1);
    } else {
      path.add(new Step(t, step.place(), 0));
      return part(path, depth, true);
    }
    step.advance();
    return told;
  }

  private String designators(Type in, int base, List<Step> path) {
    StringBuilder s = new StringBuilder();
    path.clear();
    Type t = in;
    int at = base;
    do {
      int index;
      if (t.kind == 'a') {
        index = random(t.length > 0 ? t.length : 6);
        s.append("[").append(index).append("]");
      } else {
        index = random(t.names.size());
        s.append(".").append(t.names.get(index));
      }
      Step step = new Step(t, at, index);
      path.add(step);
      at = step.place();
      t = step.type();
    } while (t.kind != 's' && random(3) == 0);
    return s.append(" = ").toString();
  }

  private String braces(Type t, int base, int depth) {
    if (t.kind == 's') {
      return "{ " + number(null, t, base) + " }";
    }
    StringBuilder s = new StringBuilder("{ ");
    List<Step> path = new ArrayList<>();
    path.add(new Step(t, base, 0));
    int count = random(5);
    for (int i = 0; i < count && !tooMany; i++) {
      String designated = "";
      if (random(5) == 0) {
        designated = designators(t, base, path);
      } else {
        while (path.size() > 1 && path.get(path.size() - 1).atEnd()) {
          path.remove(path.size() - 1);
          path.get(path.size() - 1).advance();
        }
        if (path.get(0).atEnd()) {
          if (random(12) != 0) {
            break;
          }
          tooMany = true;
          s.append(i > 0 ? ", " : "").append("1");
          break;
        }
      }
      if (t.length == 0 && t.kind == 'a') {
        longest = Math.max(longest, path.get(0).index + 1);
      }
      // Behind designators a part that goes further in goes on there.
      s.append(i > 0 ? ", " : "").append(designated).append(part(path, depth, false));
    }
    return s.append(random(4) == 0 && !s.toString().equals("{ ") ? ", }" : " }").toString();
  }

  private void text() {
    records.clear();
    declared.setLength(0);
    for (int i = 0; i < 3; i++) {
      record(i);
      known();
    }
    Type t = records.isEmpty() || random(3) == 0 ? array(type(2), 1 + random(4)) : records.get(random(records.size()));
    boolean open = t.kind == 'a' && random(3) == 0;
    if (open) {
      t = array(t.element, 0);
    }
    bytes = new byte[4096];
    tooMany = false;
    longest = 0;
    String told = isText(t) && random(2) == 0 ? string(t, 0, t.length) : braces(t, 0, 0);
    int size = open ? longest * t.element.size : t.size;
    boolean right = !tooMany && size > 0;
    String text = declared + tell(t, "x") + " = " + told + ";\nvoid f(void) { " + tell(t, "y") + " = " + told + "; }\n";
    text = text + "int main(void) { f(); return sizeof x == " + size + "; }\n";
    if (text.length() > 9000 || size > 2000) {
      return;
    }
    Bench b = new Bench().source(text);
    int code = b.x.compile();
    Bench.due(text, code, right ? 0 : 4);
    if (code == 0 && right) {
      compare(b, t, size, text);
    }
  }

  private void compare(Bench b, Type t, int size, String text) {
    Bench.due("run " + text, b.x.run(100000), 0);
    Bench.due("size " + text, b.x.exitCode(), 1);
    // Objects that are known lie before x.
    int at = 1024;
    for (Type r : records) {
      if (r.object != null) {
        at = (at + r.alignment - 1) / r.alignment * r.alignment + r.size;
      }
    }
    at = (at + t.alignment - 1) / t.alignment * t.alignment;
    int frame = 262144 - (size + 7) / 8 * 8;
    for (int i = 0; i < size; i++) {
      Bench.due("byte " + i + " of " + text, b.x.memory(at + i) & 255, bytes[i] & 255);
      Bench.due("byte " + i + " on the stack of " + text, b.x.memory(frame + i) & 255, bytes[i] & 255);
    }
  }

  /** Declares an object of the latest record with bytes of its own. */
  private void known() {
    if (records.isEmpty() || records.get(records.size() - 1).object != null || random(3) == 0) {
      return;
    }
    Type t = records.get(records.size() - 1);
    bytes = new byte[4096];
    tooMany = false;
    String told = braces(t, 0, 3);
    if (!tooMany) {
      t.object = "k" + records.size();
      t.worth = java.util.Arrays.copyOf(bytes, t.size);
      declared.append(t.name).append(' ').append(t.object).append(" = ").append(told).append(";\n");
    }
  }
}
