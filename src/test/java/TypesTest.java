import java.util.ArrayList;
import java.util.List;

/** Types are made up, told by declarators, type names and typedefs in many ways, and their sizes and sameness looked at. */
public final class TypesTest {
  private static final int TEXTS = 1200;
  private static final String[] BASES = {"char", "unsigned char", "short", "unsigned short", "int", "unsigned", "long long", "unsigned long long", "float", "double", "struct A", "struct B", "union U", "void"};
  private static final int[] SIZES = {1, 1, 2, 2, 4, 4, 8, 8, 4, 8, 3, 12, 8, -1};
  /** Other words for the same types. */
  private static final String[][] WORDS = {{"char", "signed char", "char const"}, {"unsigned char", "char unsigned"}, {"short", "short int", "signed short"}, {"unsigned short", "short unsigned int"}, {"int", "signed", "long", "enum E", "int const", "long int"},
      {"unsigned", "unsigned long", "size_t", "unsigned int"}, {"long long", "long int long"}, {"unsigned long long", "long unsigned long"}, {"float", "const float"}, {"double", "double volatile"}, {"struct A"}, {"struct B", "const struct B"}, {"union U"}, {"void"}};
  private static final String HEAD = "enum E { E0 }; struct A { char a[3]; }; struct B { int a; struct A b; char *c; }; union U { int a; double b; };\n";

  private long state = 1618033988L;

  public static void main(String[] args) {
    TypesTest test = new TypesTest();
    for (int i = 0; i < TEXTS; i++) {
      test.text();
    }
    Bench.finish();
  }

  private int random(int below) {
    state ^= state << 13;
    state ^= state >>> 7;
    state ^= state << 17;
    return (int) ((state >>> 1) % below);
  }

  /** A base, or a pointer, an array or a function made of another. */
  private static final class Type {
    final char kind;
    final int number;
    final Type of;
    final List<Type> parameters = new ArrayList<>();
    boolean rest;

    Type(char kind, int number, Type of) {
      this.kind = kind;
      this.number = number;
      this.of = of;
    }
  }

  private Type type(int depth, boolean complete) {
    int kind = depth <= 0 ? 0 : random(7);
    if (kind < 2) {
      return new Type('b', random(complete ? BASES.length - 1 : BASES.length), null);
    }
    if (kind < 4) {
      return new Type('p', 0, type(depth - 1, false));
    }
    if (kind < 6 || complete) {
      return new Type('a', 1 + random(3), type(depth - 1, true));
    }
    return function(depth);
  }

  private Type function(int depth) {
    Type answer = type(depth - 1, false);
    while (answer.kind == 'a' || answer.kind == 'f') {
      answer = answer.kind == 'a' ? answer.of : new Type('p', 0, answer);
    }
    Type f = new Type('f', 0, answer);
    int count = random(3);
    for (int i = 0; i < count; i++) {
      f.parameters.add(random(4) == 0 ? function(depth - 2) : type(depth - 2, true));
    }
    f.rest = count > 0 && random(4) == 0;
    return f;
  }

  private static int size(Type t) {
    return t.kind == 'b' ? SIZES[t.number] : t.kind == 'p' ? 4 : t.kind == 'a' ? t.number * size(t.of) : -1;
  }

  private static Type adjusted(Type parameter) {
    return parameter.kind == 'a' ? new Type('p', 0, parameter.of) : parameter.kind == 'f' ? new Type('p', 0, parameter) : parameter;
  }

  private static boolean same(Type a, Type b) {
    if (a.kind != b.kind || a.number != b.number || a.rest != b.rest || a.parameters.size() != b.parameters.size()) {
      return false;
    }
    for (int i = 0; i < a.parameters.size(); i++) {
      if (!same(adjusted(a.parameters.get(i)), adjusted(b.parameters.get(i)))) {
        return false;
      }
    }
    return a.of == null || same(a.of, b.of);
  }

  /** Tells a type around what is told of its declarator so far; typedefs that it uses are put before. */
  private String tell(Type t, String inner, StringBuilder before, boolean canName) {
    if (canName && t.kind != 'b' && random(5) == 0) {
      // What it needs itself is told without typedefs, so that the names come in order.
      String name = "T" + before.chars().filter(c -> c == '\n').count();
      before.append("typedef ").append(tell(t, name, before, false)).append(";\n");
      return name + (inner.isEmpty() ? "" : " " + inner);
    }
    boolean pointer = inner.startsWith("*");
    switch (t.kind) {
      case 'b':
        String[] words = WORDS[t.number];
        return words[random(words.length)] + (inner.isEmpty() ? "" : " " + inner);
      case 'p':
        return tell(t.of, "*" + (random(6) == 0 ? " const " : "") + inner, before, canName);
      case 'a':
        return tell(t.of, (pointer || random(8) == 0 && !inner.isEmpty() ? "(" + inner + ")" : inner) + "[" + length(t.number) + "]", before, canName);
      default:
        return tell(t.of, (pointer || random(8) == 0 && !inner.isEmpty() ? "(" + inner + ")" : inner) + parameters(t, before, canName), before, canName);
    }
  }

  private String length(int n) {
    String[] ways = {"" + n, n + " + 0", "(" + n + ")", "sizeof(char [" + n + "])", "0x" + n, n + " ? " + n + " : 1"};
    return ways[random(ways.length)];
  }

  private String parameters(Type f, StringBuilder before, boolean canName) {
    if (f.parameters.isEmpty()) {
      return random(2) == 0 ? "()" : "(void)";
    }
    StringBuilder s = new StringBuilder("(");
    for (int i = 0; i < f.parameters.size(); i++) {
      Type p = f.parameters.get(i);
      // What a parameter becomes may be told itself.
      p = random(3) == 0 ? adjusted(p) : p;
      String name = random(2) == 0 ? "" : "p" + i;
      s.append(i > 0 ? ", " : "").append(tell(p, name, before, canName));
    }
    return s.append(f.rest ? ", ...)" : ")").toString();
  }

  private void compiles(String text, boolean right) {
    Bench b = new Bench().source(text);
    Bench.due(text, b.x.compile(), right ? 0 : 4);
  }

  private void text() {
    StringBuilder before = new StringBuilder(HEAD);
    Type t = type(5, true);
    String object = tell(t, "x", before, true);
    int size = size(t);
    String check = before + "extern " + object + ";\nint main(void) { char c[sizeof(" + tell(t, "", new StringBuilder(), false) + ") == " + size + " ? 1 : -1]; return 0; }\n";
    compiles(check, size <= 262144);
    before = new StringBuilder(HEAD);
    Type one = random(2) == 0 ? function(4) : type(4, false);
    Type other = random(2) == 0 ? one : changed(one);
    String p = tell(new Type('p', 0, one), "p", before, true);
    String q = tell(new Type('p', 0, other), "q", before, true);
    boolean assignable = same(one, other) || isVoid(one) || isVoid(other);
    compiles(before + p + "; " + q + ";\nint main(void) { q = p; return p == q; }\n", assignable);
    // As a declaration of the same thing again.
    if (one.kind == 'f') {
      before = new StringBuilder(HEAD);
      String f = tell(one, "f", before, true);
      String g = tell(other, "f", before, true);
      compiles(before + f + "; " + g + ";\nint main(void) { return 0; }\n", same(one, other));
    }
  }

  private static boolean isVoid(Type t) {
    return t.kind == 'b' && t.number == BASES.length - 1;
  }

  /** The same type but for one thing in it. */
  private Type changed(Type t) {
    if (t.kind == 'b' || random(4) == 0) {
      return t.kind == 'b' ? new Type('b', random(BASES.length - 1), null) : t.kind == 'a' ? withLength(t) : t;
    }
    Type copy = new Type(t.kind, t.number, t.kind == 'a' ? completed(changed(t.of)) : t.of == null ? null : changed(t.of));
    copy.rest = t.rest && random(4) != 0;
    for (Type p : t.parameters) {
      copy.parameters.add(random(3) == 0 ? completed(changed(p)) : p);
    }
    return copy;
  }

  private Type withLength(Type t) {
    return new Type('a', 1 + random(3), t.of);
  }

  private static Type completed(Type t) {
    return isVoid(t) ? new Type('b', 0, null) : t;
  }
}
