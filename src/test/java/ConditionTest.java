/** Conditions of if are made up, and worked out here as section 2 tells: in 64 bits, and only what is needed. */
public final class ConditionTest {
  private static final int TEXTS = 2500;
  private static final String[] SIGNS = {"*", "/", "%", "+", "-", "<<", ">>", "<", "<=", ">", ">=", "==", "!=", "&", "^", "|", "&&", "||"};

  private long state = 2236067977L;

  public static void main(String[] args) {
    ConditionTest test = new ConditionTest();
    for (int i = 0; i < TEXTS; i++) {
      test.text();
    }
    Bench.finish();
  }

  private int random(int below) {
    state ^= state << 13;
    state ^= state >>> 7;
    state ^= state << 17;
    return (int) ((state >>> 1) % below);
  }

  /** How strongly the signs bind, the prefix operators and what is in ( ) strongest. */
  private static final int[] RANKS = {10, 10, 10, 9, 9, 8, 8, 7, 7, 7, 7, 6, 6, 5, 4, 3, 2, 1};

  private static final class Fault extends RuntimeException {
    Fault() {
      super(null, null, false, false);
    }
  }

  private interface Work {
    long now();
  }

  /** A condition as it is told, how strongly it binds (11: nothing takes it apart), and its worth. */
  private static final class Node {
    final String text;
    final int rank;
    final Work work;

    Node(String text, int rank, Work work) {
      this.text = text;
      this.rank = rank;
      this.work = work;
    }

    String within(int least) {
      return rank < least ? "(" + text + ")" : text;
    }
  }

  private Node constant() {
    switch (random(9)) {
      case 0: return new Node("0", 11, () -> 0);
      case 1: return new Node("1", 11, () -> 1);
      case 2: return new Node("63", 11, () -> 63);
      case 3: return new Node("0xffffffffffffffff", 11, () -> -1);
      case 4: return new Node("9223372036854775807", 11, () -> Long.MAX_VALUE);
      case 5: return new Node("name", 11, () -> 0);
      case 6: return new Node("'\\377'", 11, () -> -1);
      case 7: return new Node("defined X", 11, () -> 0);
      default:
        int n = random(200);
        return new Node(n + (random(3) == 0 ? "u" : ""), 11, () -> n);
    }
  }

  private Node make(int depth) {
    int kind = depth <= 0 ? 0 : random(10);
    if (kind < 2) {
      return constant();
    }
    if (kind < 4) {
      Node a = make(depth - 1);
      int which = random(4);
      String told = "+-~!".charAt(which) + " " + a.within(11);
      return new Node(told, 11, () -> {
        long x = a.work.now();
        return which == 0 ? x : which == 1 ? -x : which == 2 ? ~x : x == 0 ? 1 : 0;
      });
    }
    if (kind == 4) {
      Node a = make(depth - 1);
      Node b = make(depth - 1);
      Node c = make(depth - 1);
      return new Node(a.within(1) + " ? " + b.text + " : " + c.text, 0, () -> a.work.now() != 0 ? b.work.now() : c.work.now());
    }
    Node a = make(depth - 1);
    Node b = make(depth - 1);
    int which = random(SIGNS.length);
    int rank = RANKS[which];
    return new Node(a.within(rank) + " " + SIGNS[which] + " " + b.within(rank + 1), rank, () -> operate(SIGNS[which], a, b));
  }

  private static long operate(String sign, Node a, Node b) {
    long x = a.work.now();
    if (sign.equals("&&") || sign.equals("||")) {
      boolean first = x != 0;
      return (first == sign.equals("||") ? first : b.work.now() != 0) ? 1 : 0;
    }
    long y = b.work.now();
    boolean shift = sign.equals("<<") || sign.equals(">>");
    if ((sign.equals("/") || sign.equals("%")) && y == 0 || shift && (y < 0 || y > 63)) {
      throw new Fault();
    }
    switch (sign) {
      case "*": return x * y;
      case "/": return y == -1 ? -x : x / y;
      case "%": return y == -1 ? 0 : x % y;
      case "+": return x + y;
      case "-": return x - y;
      case "<<": return x << y;
      case ">>": return x >> y;
      case "<": return x < y ? 1 : 0;
      case "<=": return x <= y ? 1 : 0;
      case ">": return x > y ? 1 : 0;
      case ">=": return x >= y ? 1 : 0;
      case "==": return x == y ? 1 : 0;
      case "!=": return x != y ? 1 : 0;
      case "&": return x & y;
      case "^": return x ^ y;
      default: return x | y;
    }
  }

  private void text() {
    Node n = make(5);
    boolean wrong = false;
    long worth = 0;
    try {
      worth = n.work.now();
    } catch (Fault fault) {
      wrong = true;
    }
    String told = worth == Long.MIN_VALUE ? "(-9223372036854775807 - 1)" : "(" + worth + ")";
    String text = "\n#if (" + n.text + ") == " + told + "\nint main(void) { return 3; }\n#else\nint main(void) { return 4; }\n#endif\n";
    Bench b = new Bench().source(text);
    int code = b.x.compile();
    Bench.due(text, code, wrong ? 1 : 0);
    if (code == 0) {
      b.x.run(9);
      Bench.due("worth of " + text, b.x.exitCode(), 3);
      Bench.due("no condition is wrong of " + text, wrong ? 1 : 0, 0);
    } else {
      Bench.due("line of " + text, b.x.faultLine(), 2);
    }
    // Without ( ) around it.
    text = "#if " + n.text + "\nint main(void) { return 3; }\n#else\nint main(void) { return 4; }\n#endif\n";
    b = new Bench().source(text);
    Bench.due(text, b.x.compile(), wrong ? 1 : 0);
    if (!wrong) {
      b.x.run(9);
      Bench.due("kept of " + text, b.x.exitCode(), worth != 0 ? 3 : 4);
    }
  }
}
