import java.util.ArrayList;
import java.util.List;

/**
 * Statements in one another: programs are made up, told as C text, and done here as section 8 tells. What they write,
 * their steps and their answers must be the same, and where they are when the fuel ends.
 */
public final class ControlTest {
  private static final int PROGRAMS = 250;
  private long state = 88172645463325252L;
  private int conditions;
  private int labels;
  // The doing: how often each condition was looked at, what was written, how many steps there were.
  private int[] looked;
  private StringBuilder wrote;
  private int steps;
  private int fuel;

  private static final class OutOfFuel extends RuntimeException {
    final int line;

    OutOfFuel(int line) {
      super(null, null, false, false);
      this.line = line;
    }
  }

  public static void main(String[] args) {
    known();
    ControlTest test = new ControlTest();
    for (int i = 0; i < PROGRAMS; i++) {
      test.program();
    }
    Bench.finish();
  }

  /** How a statement ends. */
  private enum End { ON, BREAK, CONTINUE, RETURN, GOTO }

  private int target;

  private int random(int below) {
    state ^= state << 13;
    state ^= state >>> 7;
    state ^= state << 17;
    return (int) ((state >>> 1) % below);
  }

  /** A statement: what it is, its parts, and numbers of it. */
  private static final class Node {
    final String kind;
    final List<Node> parts = new ArrayList<>();
    int number;
    int modulus;
    int rest;
    /** Where it stands in the text. */
    int line;
    List<Integer> cases = new ArrayList<>();

    Node(String kind) {
      this.kind = kind;
    }
  }

  private Node withCondition(Node node) {
    node.number = conditions++;
    node.modulus = 2 + random(3);
    node.rest = 1 + random(node.modulus - 1);
    return node;
  }

  private Node block(int depth, boolean inLoop, boolean inSwitch) {
    Node block = new Node("block");
    int count = 1 + random(3);
    for (int i = 0; i < count; i++) {
      if (random(9) == 0) {
        // A goto to a label further down in the same block.
        Node jump = withCondition(new Node("goto"));
        jump.cases.add(labels++);
        block.parts.add(jump);
        block.parts.add(statement(depth + 1, inLoop, inSwitch));
        Node label = new Node("label");
        label.cases = jump.cases;
        label.parts.add(statement(depth + 1, inLoop, inSwitch));
        block.parts.add(label);
      } else {
        block.parts.add(statement(depth + 1, inLoop, inSwitch));
      }
    }
    return block;
  }

  private Node body(int depth, boolean inLoop, boolean inSwitch) {
    return random(3) == 0 ? statement(depth + 1, inLoop, inSwitch) : block(depth + 1, inLoop, inSwitch);
  }

  private Node statement(int depth, boolean inLoop, boolean inSwitch) {
    int kind = depth > 7 ? random(3) : random(13);
    Node node;
    switch (kind) {
      case 0: case 1:
        node = new Node("put");
        node.number = random(26);
        return node;
      case 2:
        return new Node("empty");
      case 3: case 4:
        node = withCondition(new Node(random(2) == 0 ? "if" : "ifelse"));
        // So that an else behind it belongs to it.
        node.parts.add(block(depth, inLoop, inSwitch));
        if (node.kind.equals("ifelse")) {
          node.parts.add(body(depth, inLoop, inSwitch));
        }
        return node;
      case 5: case 6:
        node = withCondition(new Node("while"));
        node.parts.add(body(depth, true, false));
        return node;
      case 7:
        node = withCondition(new Node("do"));
        node.parts.add(body(depth, true, false));
        return node;
      case 8:
        node = withCondition(new Node("for"));
        node.parts.add(body(depth, true, false));
        node.cases.add(random(8));
        return node;
      case 9: case 10:
        return choice(depth, inLoop);
      case 11:
        if (!inLoop && !inSwitch) {
          return block(depth, false, false);
        }
        node = withCondition(new Node(inLoop && random(2) == 0 ? "continue" : inSwitch || inLoop ? "break" : "empty"));
        return node;
      default:
        return random(12) == 0 ? withCondition(new Node("return")) : block(depth, inLoop, inSwitch);
    }
  }

  private Node choice(int depth, boolean inLoop) {
    Node node = withCondition(new Node("switch"));
    node.modulus = 5;
    List<Integer> left = new ArrayList<>(List.of(0, 1, 2, 3, -1));
    int count = 1 + random(4);
    for (int i = 0; i < count; i++) {
      node.cases.add(left.remove(random(left.size())));
      node.parts.add(random(4) == 0 ? new Node("empty") : body(depth, inLoop, true));
      node.parts.add(new Node(random(2) == 0 ? "plainbreak" : "empty"));
    }
    return node;
  }

  // Telling it as C.

  private static String condition(Node node) {
    return "k[" + node.number + "]++ % " + node.modulus + " < " + node.rest;
  }

  private static int lineOf(CharSequence text) {
    return 1 + (int) text.chars().filter(x -> x == '\n').count();
  }

  private void tell(Node node, StringBuilder c) {
    c.append('\n');
    node.line = lineOf(c);
    switch (node.kind) {
      case "put": c.append("putchar(").append('a' + node.number).append(");"); break;
      case "empty": c.append(";"); break;
      case "plainbreak": c.append("break;"); break;
      case "block":
        c.append("{ ");
        for (Node part : node.parts) {
          tell(part, c);
          c.append(' ');
        }
        c.append("}");
        break;
      case "if": case "ifelse":
        c.append("if (").append(condition(node)).append(") ");
        tell(node.parts.get(0), c);
        if (node.parts.size() > 1) {
          c.append(" else ");
          tell(node.parts.get(1), c);
        }
        break;
      case "while":
        c.append("while (").append(condition(node)).append(") ");
        tell(node.parts.get(0), c);
        break;
      case "do":
        c.append("do ");
        tell(node.parts.get(0), c);
        c.append(" while (").append(condition(node)).append(");");
        break;
      case "for":
        int parts = node.cases.get(0);
        c.append("for (").append((parts & 1) != 0 ? "putchar('(')" : (parts & 4) != 0 ? "int z = putchar('[')" : "").append("; ");
        c.append(condition(node)).append("; ").append((parts & 2) != 0 ? "putchar(')')" : "").append(") ");
        tell(node.parts.get(0), c);
        break;
      case "switch":
        c.append("switch (k[").append(node.number).append("]++ % 5) { ");
        for (int i = 0; i < node.cases.size(); i++) {
          c.append(node.cases.get(i) < 0 ? "default: " : "case " + node.cases.get(i) + ": ");
          tell(node.parts.get(2 * i), c);
          c.append(' ');
          tell(node.parts.get(2 * i + 1), c);
          c.append(' ');
        }
        c.append("}");
        break;
      case "goto": c.append("if (").append(condition(node)).append(") goto l").append(node.cases.get(0)).append(";"); break;
      case "label":
        c.append("l").append(node.cases.get(0)).append(": ");
        tell(node.parts.get(0), c);
        break;
      case "return": c.append("if (").append(condition(node)).append(") return ").append(node.number % 200).append(";"); break;
      default: c.append("if (").append(condition(node)).append(") ").append(node.kind).append(";");
    }
  }

  // Doing it.

  private boolean holds(Node node) {
    return looked[node.number]++ % node.modulus < node.rest;
  }

  private int answer;

  private void step(int line) {
    if (steps >= fuel) {
      throw new OutOfFuel(line);
    }
    steps++;
  }

  private End perform(Node node) {
    switch (node.kind) {
      case "put":
        step(node.line);
        wrote.append((char) ('a' + node.number));
        return End.ON;
      case "empty":
        return End.ON;
      case "plainbreak":
        step(node.line);
        return End.BREAK;
      case "block":
        return performAll(node.parts);
      case "if": case "ifelse":
        step(node.line);
        return holds(node) ? perform(node.parts.get(0)) : node.parts.size() > 1 ? perform(node.parts.get(1)) : End.ON;
      case "while": case "do": case "for":
        return loop(node);
      case "switch":
        return select(node);
      case "label":
        return perform(node.parts.get(0));
      default:
        return jump(node);
    }
  }

  private End jump(Node node) {
    step(node.line);
    if (!holds(node)) {
      return End.ON;
    }
    step(node.line);
    switch (node.kind) {
      case "goto":
        target = node.cases.get(0);
        return End.GOTO;
      case "return":
        answer = node.number % 200;
        return End.RETURN;
      default:
        return node.kind.equals("break") ? End.BREAK : End.CONTINUE;
    }
  }

  private End performAll(List<Node> parts) {
    for (int i = 0; i < parts.size(); i++) {
      End end = perform(parts.get(i));
      if (end == End.GOTO) {
        int to = -1;
        for (int k = i + 1; k < parts.size(); k++) {
          if (parts.get(k).kind.equals("label") && parts.get(k).cases.get(0) == target) {
            to = k;
          }
        }
        if (to < 0) {
          return end;
        }
        i = to - 1;
      } else if (end != End.ON) {
        return end;
      }
    }
    return End.ON;
  }

  private End loop(Node node) {
    step(node.line);
    boolean isDo = node.kind.equals("do");
    int parts = node.kind.equals("for") ? node.cases.get(0) : 0;
    wrote.append((parts & 1) != 0 ? "(" : (parts & 4) != 0 ? "[" : "");
    boolean first = isDo;
    while (first || looks(node)) {
      first = false;
      End end = perform(node.parts.get(0));
      if (end == End.BREAK) {
        return End.ON;
      }
      if (end == End.RETURN || end == End.GOTO) {
        return end;
      }
      wrote.append((parts & 2) != 0 ? ")" : "");
    }
    return End.ON;
  }

  private boolean looks(Node node) {
    step(node.line);
    return holds(node);
  }

  private End select(Node node) {
    step(node.line);
    int value = looked[node.number]++ % 5;
    int from = node.cases.indexOf(value);
    from = from < 0 ? node.cases.indexOf(-1) : from;
    End end = End.ON;
    for (int i = 2 * Math.max(from, 0); from >= 0 && i < node.parts.size() && end == End.ON; i++) {
      end = perform(node.parts.get(i));
    }
    return end == End.BREAK ? End.ON : end;
  }

  private void program() {
    conditions = 0;
    labels = 0;
    Node f = block(0, false, false);
    Node main = block(0, false, false);
    StringBuilder c = new StringBuilder("int k[" + (conditions + 1) + "]; int f(void) {");
    tell(f, c);
    c.append("\nreturn 201; }\nint main(void) {\nint r = f();");
    int call = lineOf(c);
    int last = call - 2;
    tell(main, c);
    c.append("\nreturn r; }\n");
    String text = c.toString();
    if (text.length() > 9000) {
      return;
    }
    fuel = 100000;
    int due = doAll(f, main, last, call, lineOf(text) - 1);
    if (due < 0 || wrote.length() > 32000) {
      return;
    }
    Bench b = new Bench().source(text).runs(text, fuel, 0, 0);
    Bench.due("exit code of " + text, b.x.exitCode(), due);
    Bench.due("stdout of " + text, b.wrote(2), wrote.toString());
    Bench.due("steps of " + text, b.x.steps(), steps);
    int all = steps;
    for (int i = 0; i < 4; i++) {
      fuel = random(all);
      int line = -1 - doAll(f, main, last, call, lineOf(text) - 1);
      Bench.due("fuel " + fuel + " of " + text, b.x.run(fuel), 9);
      Bench.due("line with fuel " + fuel + " of " + text, b.x.trapLine(), line);
      Bench.due("steps with fuel " + fuel + " of " + text, b.x.steps(), fuel);
      Bench.due("stdout with fuel " + fuel + " of " + text, b.wrote(2), wrote.toString());
    }
  }

  /** Does the whole; its answer, or -1 less the line if the fuel ends. */
  private int doAll(Node f, Node main, int returnOfF, int call, int returnOfMain) {
    looked = new int[conditions + 1];
    wrote = new StringBuilder();
    steps = 0;
    try {
      step(0);
      step(call);
      End end = perform(f);
      int first = answer;
      if (end != End.RETURN) {
        step(returnOfF);
        first = 201;
      }
      end = perform(main);
      if (end != End.RETURN) {
        step(returnOfMain);
        answer = first;
      }
      return answer;
    } catch (OutOfFuel out) {
      return -1 - out.line;
    }
  }

  /** Some that are written by hand, so that a wrong doing here can't hide a wrong one there. */
  private static void known() {
    Bench.exits("int main(void) { int n = 0; while (n < 5) { while (0) ; n++; } return n; }", 5);
    Bench.exits("int main(void) { int n = 0; for (int i = 0; i < 3; i++) for (int j = 0; j < 3; j++) { if (j == 1) continue; if (i == 2) break; n += i * 10 + j; } return n; }", 0 + 2 + 10 + 12);
    Bench.exits("int main(void) { int n = 0; for (int i = 0; i < 3; i++) { do { n++; if (n % 2) break; } while (n < 9); n += 10; } return n; }", 33);
    Bench.exits("int main(void) { int n = 0, i; for (i = 0; i < 4; i++) { switch (i) { case 0: continue; case 1: n += 1; case 2: n += 10; break; default: n += 100; } n += 1; } return n; }", 1 + 10 + 1 + 10 + 1 + 100 + 1);
    Bench.exits("int f(int x) { switch (x) { case 1: return 10; case 2: return 20; } return 0; } int g(int x) { switch (x) { case 1: return 1; case 3: return 3; default: return 5; } } int main(void) { return f(1) + f(2) + f(3) + g(1) + g(2) + g(3); }", 39);
    Bench.exits("int main(void) { int n = 0; for (int i = 0; i < 3; i++) switch (i) { case 1: switch (n) { case 0: n = 5; break; default: n = 9; } n += 10; break; case 2: n += 100; } return n; }", 115);
    Bench.exits("int main(void) { int n = 0; while (1) { while (1) { while (1) { n++; break; } if (n > 3) break; } n += 10; if (n > 20) break; } return n; }", 25);
    Bench.exits("int main(void) { int n = 0; do { for (;;) { if (n++ > 4) goto out; continue; } } while (1); out: return n; }", 6);
    Bench.exits("int main(void) { int n = 0; switch (1) { case 1: for (n = 0; n < 5; n++) { if (n == 3) break; } n += 10; } return n; }", 13);
    Bench.exits("int main(void) { int n = 0, k = 0; switch (7) { case 1: n = 50; while (k++ < 3) { default: n++; } } return n; }", 4);
    Bench.exits("int main(void) { int n = 0, k = 0; switch (2) { do { case 2: n++; if (n == 12) continue; default: n += 10; } while (k++ < 3); } return n; }", 1 + 10 + 1 + 1 + 10 + 1 + 10);
    Bench.exits("int main(void) { int n = 0; for (int i = 0; i < 5; i++) { switch (i) { case 1: switch (n) { case 1: continue; } n += 10; case 3: if (n) continue; n += 20; } n++; } return n; }", 3);
    Bench.exits("int main(void) { int i = 0, n = 0; while (i++ < 5) { switch (i) { case 2: case 4: continue; default: break; } n += i; } return n; }", 9);
    Bench.exits("int main(void) { int i = 0, n = 0; do { switch (i) { case 2: continue; } n += i; } while (i++ < 4); return n; }", 8);
    Bench.exits("int main(void) { int n = 0; a: n++; if (n < 5) goto a; goto c; b: return n; c: n += 10; goto b; }", 15);
  }
}
