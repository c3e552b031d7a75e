/** ROOM: for each thing that is counted the last one that there is room for, and the first one for which there is none. */
public final class RoomBoundsTest {
  public static void main(String[] args) {
    cutPieces();
    directives();
    wordsThatAreNoPieces();
    rows();
    strings();
    pastes();
    places();
    includedTexts();
    conditions();
    orderOfCounting();
    argumentsOnce();
    hiddenNames();
    expressions();
    partsAndSizes();
    Bench.finish();
  }

  /** A text that makes so many pieces, with a group of its own that is done before what follows is cut. */
  private static String filler(int pieces) {
    StringBuilder s = new StringBuilder("#define Z");
    s.append(" ;".repeat(100)).append("\nint main(void) {\n");
    int left = pieces - 102 - 6;
    return s.append("Z ".repeat(left / 101)).append(";".repeat(left % 101)).append("\n#\n").toString();
  }

  private static final int FILLER_LINES = 4;

  /** How many pieces a few definitions are. */
  private static int of(String before) {
    Bench b = new Bench().source(before + "int main(void) { }");
    b.x.compile();
    return b.x.pieces() - 7;
  }

  /**
   * A text that counts so many pieces just has room for them; with one piece less there is none, which is told at this
   * line of it, when so many of its pieces are made.
   */
  private static void counts(int pieces, String before, String text, int line, int made) {
    int own = of(before);
    Bench b = new Bench().source(before + filler(16000 - pieces - own) + text);
    Bench.due("no fault 5 " + text, b.x.compile() == 5 ? 5 : 0, 0);
    Bench.due("all pieces " + text, b.x.pieces(), 16000);
    b = new Bench().source(before + filler(16001 - pieces - own) + text);
    Bench.due("no room " + text, b.x.compile(), 5);
    Bench.due("line " + text, b.x.faultLine(), before.split("\n", -1).length - 1 + FILLER_LINES + line);
    Bench.due("text " + text, b.x.faultText(), 0);
    Bench.due("what is not made is not counted " + text, b.x.pieces(), 16001 - pieces + made);
  }

  /** "Counted are: each piece cut from a text, when it is cut"; "fault 5 at the line of the piece" */
  private static void cutPieces() {
    counts(1, "", "}", 1, 0);
    counts(3, "", ";\n;\n}", 3, 2);
    counts(2, "", "\"a long string is one piece only\"\n;", 2, 1);
    counts(2, "", "a_long_name_is_one_piece_only\n;", 2, 1);
    counts(4, "", "'a' 1.5e+10\n...\n<<=", 3, 3);
    counts(1, "", "\n\n/* no piece */ } // none\n", 3, 0);
  }

  /** "of a directive's line what stands behind its #, whole" */
  private static void directives() {
    counts(1 + 2, "", "}\n#define X", 2, 2);
    counts(1 + 7, "", "}\n#define F(a) a \\\na", 3, 7);
    counts(1 + 2, "", "}\n#undef X", 2, 2);
    counts(1 + 3, "", "}\n#pragma a b", 2, 3);
    counts(1 + 1, "", "}\n#include \"stdio.h\"", 2, 1);
    counts(1 + 1, "", "}\n#ifdef X\n#endif", 2, 1);
    counts(1 + 1, "", "}\n#ifndef X\n#endif", 2, 1);
    counts(1 + 3, "", "}\n#if 1 + 1\n#endif", 2, 3);
    counts(1 + 1 + 1, "", "}\n#if 0\n#elif 1\n#endif", 3, 2);
    // What is wrong in a directive is found when it is cut.
    counts(1 + 1, "", "}\n#error", 2, 1);
    counts(1 + 2, "", "}\n#if 1\n#else x\n", 3, 2);
  }

  /** "but the words if, ifdef, ifndef, elif, else, endif and include, and all of an include with <, are no pieces" */
  private static void wordsThatAreNoPieces() {
    counts(2, "", "}\n#ifdef X\n#else\n#endif\n#include <stdio.h>\n#include<limits.h>\n#\n# // nothing\n#include  <string.h> \n", 2, 1);
    counts(2, "", "}\n#if 0\nthese are not cut\n#define nor these\n#if never ( cut\n#elif ( nor this\n#endif\n#endif\n", 2, 1);
    counts(2, "", "}\n#if 1\n#elif never ( cut\n#else\nnot these\n#endif\n", 2, 1);
  }

  /** "at each replacement the row that it puts in, when # and ## are done, all at once (a string in it .. as one for each 8 bytes of its spelling, rounded up)"; "of the outermost name" */
  private static void rows() {
    counts(2 + 1, "#define A ;\n", "A\n}", 1, 2);
    counts(2 + 5, "#define A 1;2;;\n", "A\n}", 1, 2);
    counts(2 + 0, "#define A\n", "A\n}", 2, 1);
    counts(3 + 7, "", "NULL\n;}", 1, 3);
    counts(2 + 1 + 1, "#define A B\n#define B ;\n", "A\n}", 1, 2 + 1);
    counts(3 + 1, "#define S \"123456\"\n", "S\n;}", 1, 3);
    counts(3 + 2, "#define S \"1234567\"\n", "S\n;}", 1, 3);
    counts(3 + 2, "#define S \"12345678901234\"\n", "S\n;}", 1, 3);
    counts(3 + 3, "#define S \"123456789012345\"\n", "S\n;}", 1, 3);
    counts(3 + 1, "#define S 1234567890123456789\n", "S\n;}", 1, 3);
    counts(3 + 1, "#define S a_name_of_many_letters\n", "S\n;}", 1, 3);
    counts(3 + 1, "#define S 'abcdefghijk'\n", "S\n;}", 1, 3);
    counts(6 + 3, "#define F(x) x;x\n", "F(1)\n;}", 1, 6);
    counts(6 + 5, "#define F(x) x;x\n", "F(;;\n)\n}", 1, 6);
    counts(5 + 1, "#define F(x) x;\n", "F(\n)\n;}", 1, 5);
    // At the outermost name, also if it is a row further in for which there is no room.
    counts(4 + 4 + 1, "#define F(x) x\n#define G F(1)\n", ";\nG\n;}", 2, 4 + 4);
    counts(7 + 4 + 1 + 1, "#define F(x) x\n#define G F(1)\n", ";\nF(\nG)\n;}", 2, 7 + 4 + 1);
  }

  /** "and each string made by # .., one for each 8 bytes of its spelling, rounded up, when it is made" */
  private static void strings() {
    String s = "#define S(x) #x\n";
    // The pieces of the call, the string when it is made, the row with it.
    counts(6 + 1 + 1, s, "S(abcdef)\n;}", 1, 6 + 1);
    counts(6 + 2 + 2, s, "S(abcdefg)\n;}", 1, 6 + 2);
    counts(5 + 1 + 1, s, "S()\n;}", 1, 5 + 1);
    counts(6 + 2 + 2, s, "S(\"abc\")\n;}", 1, 6 + 2);
    counts(6 + 1 + 1, s, "S(\"a\")\n;}", 1, 6 + 1);
    counts(7 + 1 + 1, s, "S(ab   cde)\n;}", 1, 7 + 1);
    counts(7 + 2 + 2, s, "S(abc   def)\n;}", 1, 7 + 2);
    // There is room for the string and none for the row, and none for the string.
    for (int missing = 0; missing < 2; missing++) {
      Bench b = new Bench().source(s + filler(16000 - 7 - of(s) + missing) + "S(abcdef)\n;}");
      Bench.due("no room", b.x.compile(), 5);
      Bench.due("pieces", b.x.pieces(), 16000);
      b = new Bench().source(s + filler(16000 - 8 - of(s) + missing) + "S(abcdefg)\n;}");
      Bench.due("no room", b.x.compile(), 5);
      Bench.due("pieces", b.x.pieces(), missing == 0 ? 16000 : 15999);
    }
  }

  /** "and each piece made by ##, one for each 8 bytes of its spelling, rounded up" */
  private static void pastes() {
    String p = "#define P(x, y) x ## y\n#define O 1 ## 2\n";
    counts(8 + 1 + 1, p, "P(1,2)\n;}", 1, 8 + 1);
    counts(8 + 1 + 1, p, "P(1234,5678)\n;}", 1, 8 + 1);
    counts(8 + 2 + 1, p, "P(1234,56789)\n;}", 1, 8 + 2);
    counts(8 + 2 + 1, p, "P(12345678,12345678)\n;}", 1, 8 + 2);
    counts(8 + 3 + 1, p, "P(12345678,123456789)\n;}", 1, 8 + 3);
    counts(7 + 0 + 1, p, "P(1,)\n;}", 1, 7);
    counts(7 + 0 + 1, p, "P(,1)\n;}", 1, 7);
    counts(6, p, "P(,)\n;}", 2, 5);
    counts(3 + 1 + 1, p, "O\n;}", 1, 3 + 1);
    counts(10 + 1 + 3, p, "P(1 2,3 4)\n;}", 1, 10 + 1);
  }

  /** "(a string in it, that of __FILE__ too, as one for each 8 bytes of its spelling, rounded up)" */
  private static void places() {
    counts(3 + 1, "", "__LINE__\n;}", 1, 3);
    counts(3 + 1, "", "__FILE__\n;}", 1, 3);
    for (int length : new int[] {1, 6, 7, 14, 15}) {
      String name = "n".repeat(length);
      int cost = 1 + 16 + 2 + 2 + (length + 2 + 7) / 8;
      Bench b = new Bench().header(name, "__FILE__;").source(filler(16000 - cost) + "#include <" + name + ">\n}");
      Bench.due("a name of " + length, b.x.compile(), 0);
      Bench.due("pieces", b.x.pieces(), 16000);
      b = new Bench().header(name, "__FILE__;").source(filler(16002 - cost) + "#include <" + name + ">\n}");
      Bench.due("no room", b.x.compile(), 5);
      Bench.due("its line", b.x.faultLine(), 1);
      Bench.due("its text", b.x.faultText(), 1);
    }
  }

  /** "of each included text 16, and one for each 8 bytes that it has (as it was given), rounded up, when it is come to"; "of the text's directive" */
  private static void includedTexts() {
    for (int length : new int[] {0, 1, 7, 8, 9, 16, 17}) {
      String text = " ".repeat(length);
      int cost = 16 + (length + 7) / 8;
      Bench b = new Bench().header("h", text).source(filler(16000 - 1 - cost) + "\n#include <h>\n}");
      Bench.due("a text of " + length, b.x.compile(), 0);
      Bench.due("pieces", b.x.pieces(), 16000);
      b = new Bench().header("h", text).source(filler(16000 - cost + 1) + "\n#include <h>\n}");
      Bench.due("no room for it", b.x.compile(), 5);
      Bench.due("the line of its directive", b.x.faultLine(), FILLER_LINES + 2);
      Bench.due("its text", b.x.faultText(), 0);
      Bench.due("it is not counted", b.x.pieces(), 16000 - cost + 1);
    }
    // As it was given: with bytes that are dropped.
    Bench b = new Bench().header("h", "\r\r\r\r\\\n//").source(filler(16000 - 1 - 17) + "#include <h>\n}");
    Bench.due("eight bytes", b.x.compile(), 0);
    b = new Bench().header("h", "\r\r\r\r\\\n// ").source(filler(16000 - 1 - 17) + "#include <h>\n}");
    Bench.due("nine bytes", b.x.compile(), 5);
    // "(behind the 16th text, ahead of a byte that may not occur)"
    b = new Bench().header("h", "\001").source(filler(16000 - 16) + "#include <h>\n}");
    Bench.due("no room for a bad byte", b.x.compile(), 5);
    b = new Bench().header("h", "\001").source(filler(16000 - 17) + "#include <h>\n}");
    Bench.due("room for a bad byte", b.x.compile(), 1);
    Bench.due("its text is counted", b.x.pieces(), 16000);
    b = new Bench().header("h", "#include <h>").source(filler(16000 - 14 * 18) + "#include <h>\n}");
    Bench.due("the 16th text ahead of its room", b.x.compile(), 1);
    b = new Bench().header("h", "#include <h>").source(filler(16001 - 14 * 18) + "#include <h>\n}");
    Bench.due("no room for the 15th", b.x.compile(), 5);
    // A standard name without a header is no text.
    b = new Bench().source(filler(15999) + "#include <stdio.h>\n}");
    Bench.due("no text", b.x.compile(), 0);
  }

  /** "Not counted are the 1 and 0 of defined" */
  private static void conditions() {
    counts(1 + 2, "", "}\n#if defined X\n#endif", 2, 2);
    counts(1 + 4, "", "}\n#if defined(X)\n#endif", 2, 4);
    counts(1 + 1 + 4, "", "}\n#if EOF\n#endif", 2, 2);
    counts(1 + 1 + 1, "#define A 1\n", "}\n#if A\n#endif", 2, 2);
    counts(1 + 1 + 1, "", "}\n#if __LINE__\n#endif", 2, 2);
    counts(1 + 3 + 1, "", "}\n\n#if \\\n1 + __LINE__\n#endif", 3, 4);
    Bench.exits("#if " + "defined X + ".repeat(300) + "1 == 1\nint main(void) { return 3; }\n#endif", 3);
  }

  /** "strings are made before that"; the row comes behind the rows of its arguments. */
  private static void orderOfCounting() {
    String f = "#define A 1 2 3\n#define F(x) x\n#define G(x) #x x\n#define H(x, y) y x\n";
    int own = of(f);
    // The call 4, the argument's row 3, the whole row 3.
    Bench b = new Bench().source(f + filler(16000 - 6 - 3 - own) + "F(A)\n;}");
    Bench.due("the argument's row is made", b.x.compile(), 5);
    Bench.due("pieces", b.x.pieces(), 16000);
    b = new Bench().source(f + filler(16000 - 6 - 2 - own) + "F(A)\n;}");
    Bench.due("it is not made", b.x.compile(), 5);
    Bench.due("pieces", b.x.pieces(), 15998);
    b = new Bench().source(f + filler(16000 - 6 - own) + "G(A)\n;}");
    Bench.due("the string is first", b.x.compile(), 5);
    Bench.due("pieces", b.x.pieces(), 16000);
    b = new Bench().source(f + filler(16000 - 6 - 1 - own) + "G(A)\n;}");
    Bench.due("then the argument", b.x.compile(), 5);
    Bench.due("pieces", b.x.pieces(), 16000);
    // In the order in which parameters first stand in the body: y with its row of 1 is made ahead of x.
    b = new Bench().source("#define B 1\n" + f + filler(16000 - 8 - 3 - own - of("#define B 1\n")) + "H(A,B)\n;}");
    Bench.due("y before x", b.x.compile(), 5);
    Bench.due("pieces", b.x.pieces(), 15998);
    b = new Bench().source("#define B 1\n" + f + filler(16000 - 8 - 4 - own - of("#define B 1\n")) + "H(A,B)\n;}");
    Bench.due("both", b.x.compile(), 5);
    Bench.due("pieces", b.x.pieces(), 16000);
  }

  /** "Arguments are replaced once each" */
  private static void argumentsOnce() {
    String f = "#define A 1;2;3;\n#define F(x) x x x\n#define N(x) ;\n#define S(x) #x;\n#define P(x) x ## 4;\n";
    Bench b = new Bench().source(f + filler(16000 - 5 - 6 - 18 - of(f)) + "F(A)}");
    Bench.due("one replacing of the argument, three times its row", b.x.compile(), 0);
    Bench.due("pieces", b.x.pieces(), 16000);
    b = new Bench().source(f + filler(16000 - 5 - 1 - of(f)) + "N(A)}");
    Bench.due("no replacing of one that does not stand there", b.x.compile(), 0);
    Bench.due("pieces", b.x.pieces(), 16000);
    b = new Bench().source(f + filler(16000 - 5 - 1 - 2 - of(f)) + "S(A)}");
    Bench.due("nor of one behind #", b.x.compile(), 0);
    Bench.due("pieces", b.x.pieces(), 16000);
    b = new Bench().source("#define A4 5\n" + f + filler(16000 - 5 - 1 - 2 - 1 - of(f) - 3) + "P(A)}");
    Bench.due("nor of one beside ##", b.x.compile(), 0);
    Bench.due("pieces", b.x.pieces(), 16000);
  }

  /** "(this is the only limit on replacing)": how many names pieces hide, and how many hide different ones, is none. */
  private static void hiddenNames() {
    for (int chain : new int[] {100, 150, 190}) {
      for (String g : new String[] {"", "y", "K3 ( y )"}) {
        int wide = g.isEmpty() || chain == 100 ? 40 : 34;
        Bench b = new Bench().source(hiding(chain, wide, g) + "int main() {\nH(E1(1),A1,E1(2))\nint z = 5; return z; }");
        Bench.due("a chain of " + chain + " and G(y) " + g, b.x.compile(), 0);
        b.x.run(9999);
        Bench.due("what it returns", b.x.exitCode(), 5);
      }
    }
    Bench b = new Bench().source(hiding(150, 40, "") + "int main() { H(E1(1),A1,E1(2)) A1 H(E2(1),A2,E2(2)) }\n");
    Bench.due("too many pieces", b.x.compile(), 5);
    Bench.due("their line", b.x.faultLine(), hiding(150, 40, "").split("\n").length + 1);
  }

  /** Macros whose rows have wide times wide pieces, each of which hides a chain of names and others than the next. */
  private static String hiding(int chain, int wide, String g) {
    StringBuilder s = new StringBuilder();
    StringBuilder p = new StringBuilder();
    StringBuilder q = new StringBuilder();
    for (int i = 0; i < wide; i++) {
      s.append("#define P" + i + " R\n#define Q" + i + " ;\n");
      p.append(" P" + i);
      q.append(" Q" + i);
    }
    for (int i = 1; i < chain; i++) {
      s.append("#define A" + i + " A" + (i + 1) + "\n#define E" + i + "(n) E" + (i + 1) + "(n)\n");
    }
    s.append("#define A" + chain + p + "\n#define R" + q + "\n#define E" + chain + "(n) K##n\n#define K1 F\n#define K2 )\n#define K3(y) y\n");
    return s.append("#define H(a,b,c) a ( b c\n#define F(y) G(y)\n#define G(y) " + g + "\n#define z z\n").toString();
  }

  private static String arguments(int count) {
    return "1, ".repeat(count - 1);
  }

  /** "ROOM of an expression .. Above 130 for a whole expression or part of an initialiser is fault 5" */
  private static void expressions() {
    String v = "struct s { int a, *p, c[2], b : 3; } x, *q; int k, *p; struct s f(int n, ...) { return x; } int v(int n, ...) { return n; }"
        + " struct s *g(int n, ...) { return &x; } int *h(int n, ...) { return &k; } int (*o(int n, ...))(int, ...) { return v; }\n";
    // v with n arguments that are constants has the room n + 1.
    String[][] rooms = {{"v(@1)", "0"}, {"-v(@1)", "0"}, {"(char)v(@1)", "0"}, {"f(@1).a", "0"}, {"f(@1).p", "0"}, {"!~+-v(@1)", "0"}, {"v(@1), 1", "0"}, {"1, v(@1)", "0"}, {"1 ? 1 : v(@1)", "0"}, {"1 ? v(@1) : 1", "0"}, {"v(@1) ? 1 : 1", "0"}, {"1 && v(@1)", "0"}, {"v(@1) || 1", "0"},
        {"v(@1) + 1", "0"}, {"1 + v(@1)", "1"}, {"v(@1) < 1", "0"}, {"1 < v(@1)", "1"}, {"p[v(@1)]", "1"}, {"v(@1)[p]", "0"}, {"k = v(@1)", "1"}, {"k += v(@1)", "1"}, {"1 + (1 + v(@1))", "2"}, {"1 + 1 + v(@1)", "1"}, {"k = k = v(@1)", "2"}, {"v(v(@1))", "1"}, {"v(1, v(@1))", "2"}, {"v(1, 1, v(@1))", "3"},
        {"sizeof v(@1) + 1", "X"}, {"v(@1 + 1)", "1"}, {"v(@-1)", "0"}, {"v(@(1, 1))", "0"}, {"v(@1 && 1)", "0"}, {"v(@k++)", "0"}, {"v(@p[1])", "1"}, {"v(@sizeof(1 + 1))", "0"}, {"v(@\"a\")", "0"}, {"v(@k = 1)", "1"}, {"p[1] + v(@1)", "1"}, {"v(@1) + v(@1)", "1"}, {"(v(@1), 1) + 1", "0"}, {"1 * (1 ? 1 : v(@1))", "1"},
        {"*h(@1)", "0"}, {"&*h(@1)", "0"}, {"++*h(@1)", "0"}, {"(*h(@1))--", "0"}, {"g(@1)->a", "0"}, {"&g(@1)->a", "0"}, {"g(@1)->b", "0"}, {"g(@1)->b++", "0"}, {"-g(@1)->b", "0"}, {"g(@1)->b, 1", "0"}, {"*g(@1)->c", "0"}, {"*f(@1).c", "0"}, {"f(@1).c[1]", "0"}, {"1[f(@1).c]", "1"}, {"*f(@1).p", "0"},
        {"g(@1)->c + 1", "0"}, {"1 + g(@1)->c", "1"}, {"*g(@1)", "0"}, {"(*g(@1)).a", "0"}, {"1 ? v(@1) : 2.0", "0"}, {"1 ? 2.0 : v(@1)", "0"}, {"1.0 + v(@1)", "1"}, {"v(@1) + 1.0", "0"}, {"*h(@1) = 1", "0"}, {"*h(@1) += 1", "0"}, {"g(@1)->b = 1", "0"}, {"*g(@1) = x", "0"}, {"x = f(@1)", "1"}, {"o(@1)(1)", "0"}, {"(*o(@1))(1)", "0"},
        {"o(1)(v(@1))", "1"}, {"v(@rand())", "0"}, {"v(@abs(1))", "1"}, {"abs(v(@1))", "1"}, {"printf(\"\", v(@1))", "2"}, {"v(@v)", "0"}, {"v(@&v)", "0"}, {"v(@q->c)", "0"}, {"v(@k ? 1 : 2.0)", "0"}, {"v(@(char)k)", "0"}, {"(void)v(@1)", "0"}, {"(float)v(@1)", "0"}};
    for (String[] row : rooms) {
      if (row[1].equals("X")) {
        Bench.exits(v + "int main(void) { " + row[0].replace("@", arguments(400)) + "; return 3; }", 3);
        continue;
      }
      int more = Integer.parseInt(row[1]);
      Bench b = new Bench().source(v + "int main(void) {\n" + row[0].replace("@", arguments(129 - more)) + "; return 3; }");
      Bench.due("room 130 " + row[0], b.x.compile(), 0);
      Bench.faults(v + "int main(void) {\n" + row[0].replace("@", arguments(130 - more)) + "; return 3; }", 5, 3);
    }
    String h = "int h(int n, ...) { va_list a; va_start(a, n); return\n";
    Bench b = new Bench().source("int v(int n, ...) { return n; } " + h + "va_arg(a, int) + v(" + arguments(128) + "1); } int main(void) { return 0; }");
    Bench.due("va_arg", b.x.compile(), 0);
    Bench.faults("int v(int n, ...) { return n; } " + h + "va_arg(a, int) + v(" + arguments(129) + "1); } int main(void) { return 0; }", 5, 1);
    String lists = "va_list *w(int n, ...) { return 0; } int h(int n, ...) {\n";
    for (String[] row : new String[][] {{"va_arg(*w(@1), int);", "0"}, {"1 + va_arg(*w(@1), int);", "1"}, {"va_start(*w(@1), n);", "1"}, {"va_end(*w(@1));", "1"}}) {
      int more = Integer.parseInt(row[1]);
      b = new Bench().source(lists + row[0].replace("@", arguments(129 - more)) + " return 0; } int main(void) { return 0; }");
      Bench.due("room 130 " + row[0], b.x.compile(), 0);
      Bench.faults(lists + row[0].replace("@", arguments(130 - more)) + " return 0; } int main(void) { return 0; }", 5, 2);
    }
  }

  /** "part of an initialiser"; "sizes, widths, enumerators, case values and designators are whole expressions too" */
  private static void partsAndSizes() {
    String v = "int v(int n, ...) { return n; }\n";
    String[] parts = {"int x = @;", "int x = { @ };", "int x[2] = { @, @ };", "struct { int a, b[2]; } x = { @, { @ }, };", "int x[2] = { [1] = @ };", "static int x = @;"};
    for (String part : parts) {
      Bench b = new Bench().source(v + "int main(void) {\n" + part.replace("@", "v(" + arguments(129) + "1)") + " return 0; }");
      Bench.due("just room " + part, b.x.compile(), 0);
      Bench.faults(v + "int main(void) {\n" + part.replace("@", "v(" + arguments(130) + "1)") + " return 0; }", 5, 3);
    }
    for (String statement : new String[] {"@;", "if (@) ;", "while (@) break;", "do break; while (@);", "for (@; ; ) break;", "for (; @; ) break;", "for (; 0; @) ;", "for (int i = @; ; ) break;", "switch (@) ;", "return @;"}) {
      Bench b = new Bench().source(v + "int main(void) {\n" + statement.replace("@", "v(" + arguments(129) + "1)") + " return 0; }");
      Bench.due("just room " + statement, b.x.compile(), 0);
      Bench.faults(v + "int main(void) {\n" + statement.replace("@", "v(" + arguments(130) + "1)") + " return 0; }", 5, 3);
    }
    // Each bracket of nine ranks adds eight: 1 | 1 ^ 1 & 1 == 1 < 1 << 1 + 1 * ( .. ).
    String open = "(1 | 1 ^ 1 & 1 == 1 < 1 << 1 + 1 * ";
    String just = "1 * " + open.repeat(16) + "1" + ")".repeat(16);
    String more = "1 + " + just;
    for (String constant : new String[] {"int x[@];", "struct { int a : @; } x;", "enum { A = @ };", "int x[9] = { [@] = 1 };", "switch (1) { case @: ; }", "sizeof(int [@]);", "int f(int a[@]);", "struct { int a[@]; } x;"}) {
      Bench b = new Bench().source("int main(void) {\n" + constant.replace("@", just) + " return 0; }");
      Bench.due("just room " + constant, b.x.compile(), 0);
      Bench.faults("int main(void) {\n" + constant.replace("@", more) + " return 0; }", 5, 2);
    }
  }
}
