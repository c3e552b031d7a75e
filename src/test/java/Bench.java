/** What the tests share: texts go into an object of FlatC, and wrong answers are counted and printed. */
final class Bench {
  private static int wrong = 0;
  private static int asked = 0;
  final FlatC x = new FlatC();

  static void due(String what, long got, long want) {
    asked++;
    if (got != want) {
      wrong++;
      System.out.println("WRONG " + what + ": answered " + got + ", due is " + want);
    }
  }

  static void due(String what, String got, String want) {
    asked++;
    if (!got.equals(want)) {
      wrong++;
      System.out.println("WRONG " + what + ": answered <" + got + ">, due is <" + want + ">");
    }
  }

  static void finish() {
    System.out.println(asked + " answers, " + wrong + " wrong");
    if (wrong != 0) {
      System.exit(1);
    }
  }

  /** Puts a text into the tray, behind nothing else. */
  Bench tray(String text) {
    x.end(0);
    for (int i = 0; i < text.length(); i += 20) {
      x.feed(word(text, i), word(text, i + 4), word(text, i + 8), word(text, i + 12), word(text, i + 16));
    }
    x.end(text.length());
    return this;
  }

  private static int word(String text, int from) {
    int word = 0;
    for (int i = from; i < from + 4; i++) {
      word = word << 8 | (i < text.length() ? text.charAt(i) & 255 : 0);
    }
    return word;
  }

  Bench source(String text) {
    tray(text).x.take(0);
    return this;
  }

  Bench header(String name, String text) {
    tray(name + "\n" + text).x.take(1);
    return this;
  }

  Bench input(String text) {
    tray(text).x.take(2);
    return this;
  }

  Bench argument(String text) {
    tray(text).x.take(3);
    return this;
  }

  /** The bytes that the latest run wrote. */
  String wrote(int stream) {
    StringBuilder s = new StringBuilder();
    for (int i = 0; i < x.written(stream); i++) {
      s.append((char) x.out(stream, i));
    }
    return s.toString();
  }

  private static String brief(String text) {
    String one = text.replace("\n", "\\n");
    return one.length() > 200 ? one.substring(0, 100) + " .. " + one.substring(one.length() - 100) : one;
  }

  /** The program compiles, comes to its end, and writes this. */
  static Bench writes(String source, String want) {
    Bench b = new Bench();
    b.source(source).runs(source, 100000, 0, 0);
    due(brief(source) + " stdout", b.wrote(2), want);
    return b;
  }

  /** The source taken compiles and runs to an outcome, told at a line. */
  Bench runs(String name, int fuel, int outcome, int line) {
    int code = x.compile();
    due(brief(name) + " compile at line " + x.faultLine(), code, 0);
    if (code == 0) {
      due(brief(name) + " run", x.run(fuel), outcome);
      due(brief(name) + " trapLine", x.trapLine(), line);
      due(brief(name) + " strays", x.strays(), 0);
    }
    return this;
  }

  static Bench traps(String source, int outcome, int line) {
    Bench b = new Bench();
    return b.source(source).runs(source, 100000, outcome, line);
  }

  static Bench exits(String source, int code) {
    Bench b = traps(source, 0, 0);
    due(brief(source) + " exitCode", b.x.exitCode(), code);
    return b;
  }

  /** The source is refused with this fault at this line. */
  static Bench faults(String source, int code, int line) {
    Bench b = new Bench();
    b.source(source).refused(source, code, line, 0);
    return b;
  }

  Bench refused(String name, int code, int line, int text) {
    due(brief(name) + " compile", x.compile(), code);
    due(brief(name) + " faultLine", x.faultLine(), line);
    due(brief(name) + " faultText", x.faultText(), text);
    return this;
  }

  /** A function body: these statements in main, on line 2 and further. */
  static String main(String statements) {
    return "int main(void) {\n" + statements + "\n}\n";
  }
}
