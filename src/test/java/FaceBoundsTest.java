/** The boundary cases of the promises 1 to 20 and of section 1, sentence by sentence. */
public final class FaceBoundsTest {
  private static final String MAIN = "int main(void) { return 0; }";

  public static void main(String[] args) {
    feeding();
    ending();
    takingWhat();
    headersAndArguments();
    lastOneCounts();
    bytesThatMayOccur();
    clearing();
    compiling();
    faultPlaces();
    programStays();
    sixtyFour();
    running();
    outcomes();
    exitCodes();
    bytesWritten();
    memory();
    beforeAnyRun();
    heapEndAndLowest();
    pieces();
    about();
    Bench.finish();
  }

  /** "The twenty bytes of five ints, the highest first"; "-1, and none does, if it would have more than 65540". */
  private static void feeding() {
    FlatC x = new FlatC();
    int a = 'A' << 24 | 'B' << 16 | 'C' << 8 | 'D';
    Bench.due("feed", x.feed(a, a + 0x04040404, a + 0x08080808, a + 0x0c0c0c0c, a + 0x10101010), 20);
    Bench.due("take", x.take(2), 20);
    Bench b = new Bench();
    x.end(0);
    b.source("int main(void) { int c; while ((c = getchar()) != -1) putchar(c); }");
    Bench.due("compile", b.x.compile(), 0);
    b.x.feed(a, a + 0x04040404, a + 0x08080808, a + 0x0c0c0c0c, a + 0x10101010);
    b.x.take(2);
    b.x.run(1000);
    Bench.due("the order of the bytes", b.wrote(2), "ABCDEFGHIJKLMNOPQRST");
    FlatC full = new FlatC();
    for (int i = 0; i < 3276; i++) {
      full.feed(0, 0, 0, 0, 0);
    }
    Bench.due("65520 bytes", full.end(65520), 65520);
    Bench.due("65540 are not too many", full.feed(0, 0, 0, 0, 0), 65540);
    Bench.due("65560 are", full.feed(0, 0, 0, 0, 0), -1);
    Bench.due("none of them came in", full.end(65541), -1);
    Bench.due("65521", full.end(65521), 65521);
    Bench.due("65541 are too many", full.feed(1, 1, 1, 1, 1), -1);
    Bench.due("none of them came in", full.end(65522), -1);
    Bench.due("65520 again", full.end(65520), 65520);
    Bench.due("65540 again", full.feed(1, 1, 1, 1, 1), 65540);
  }

  /** "-1, and all stays, if n is below 0 or it has not so many". */
  private static void ending() {
    FlatC x = new FlatC();
    Bench.due("end 0 of nothing", x.end(0), 0);
    Bench.due("end 1 of nothing", x.end(1), -1);
    x.feed(0, 0, 0, 0, 0);
    Bench.due("end 21", x.end(21), -1);
    Bench.due("end -1", x.end(-1), -1);
    Bench.due("the least number", x.end(Integer.MIN_VALUE), -1);
    Bench.due("the greatest number", x.end(Integer.MAX_VALUE), -1);
    Bench.due("all stayed", x.feed(0, 0, 0, 0, 0), 40);
    Bench.due("end 40", x.end(40), 40);
    Bench.due("end 39", x.end(39), 39);
    Bench.due("end 40 is too far now", x.end(40), -1);
    Bench.due("end 0", x.end(0), 0);
    Bench.due("feed again", x.feed(0, 0, 0, 0, 0), 20);
  }

  /** "-1, and all stays, if what is not 0 .. 3, it has more than 65535". */
  private static void takingWhat() {
    FlatC x = new FlatC();
    x.feed(0x61616161, 0x61616161, 0x61616161, 0x61616161, 0x61616161);
    for (int what : new int[] {-1, 4, Integer.MIN_VALUE, Integer.MAX_VALUE}) {
      Bench.due("take " + what, x.take(what), -1);
      Bench.due("all stays", x.end(20), 20);
    }
    for (int what = 0; what < 4; what++) {
      Bench.due("take " + what, x.take(what), 20);
      Bench.due("the tray is empty", x.end(1), -1);
      Bench.due("take nothing as " + what, x.take(what), 0);
      x.feed(0x61616161, 0x61616161, 0x61616161, 0x61616161, 0x61616161);
    }
    for (int i = 1; i < 3277; i++) {
      x.feed(0x61616161, 0x61616161, 0x61616161, 0x61616161, 0x61616161);
    }
    for (int what = 0; what < 4; what++) {
      Bench.due("65536 bytes as " + what, x.end(65536) + x.take(what), 65535);
    }
    Bench.due("all stays", x.end(65536), 65536);
    Bench.due("65535 bytes", x.end(65535), 65535);
    Bench.due("can be taken", x.take(1), 65535);
  }

  /** "or there are 16 headers (and none of that name) or arguments". */
  private static void headersAndArguments() {
    Bench b = new Bench();
    for (int i = 0; i < 16; i++) {
      Bench.due("header " + i, b.tray("h" + i).x.take(1), i < 10 ? 2 : 3);
    }
    Bench.due("a 17th", b.tray("new\nint x;").x.take(1), -1);
    Bench.due("all stays", b.x.end(10), 10);
    Bench.due("but it can be an argument", b.x.take(3), 10);
    Bench.due("a name that only begins as one there is", b.tray("h").x.take(1), -1);
    Bench.due("a name that begins with one there is", b.tray("h15x\n").x.take(1), -1);
    Bench.due("an empty name", b.tray("\nx").x.take(1), -1);
    Bench.due("a name there is", b.tray("h15\nint x = 3;").x.take(1), 14);
    for (int i = 1; i < 16; i++) {
      Bench.due("argument " + i, b.tray("a").x.take(3), 1);
    }
    Bench.due("a 17th", b.tray("abc").x.take(3), -1);
    Bench.due("all stays", b.x.end(3), 3);
    Bench.due("but it can be the input", b.x.take(2), 3);
    b.source("#include \"h15\"\nint main(int c, char **v) { return c * 10 + x; }").runs("full", 99, 0, 0);
    Bench.due("exit code", b.x.exitCode(), 173);
    Bench.due("there is room for headers again", b.tray("new\n").x.take(1), 4);
    Bench.due("and for arguments", b.tray("abc").x.take(3), 3);
  }

  /** "HEADER (name up to the first byte 10, which is not part of it, or all; the rest is its text)", and what replaces. */
  private static void lastOneCounts() {
    Bench b = new Bench();
    b.source("int main(void) { return 1; }").source("int main(void) { return 2; }").input("a").input("b");
    b.source("int main(void) { return getchar(); }").runs("the latest source", 99, 0, 0);
    Bench.due("the latest input alone", b.x.exitCode(), 'b');
    b = new Bench().header("", "int x = 4;\n\nint y = 5;").source("#include \"\"\nint main(void) { return x + y; }");
    b.runs("a header with an empty name", 99, 0, 0);
    Bench.due("exit code", b.x.exitCode(), 9);
    b = new Bench();
    b.tray("").x.take(1);
    b.source("#include <>\n" + MAIN).runs("a header of nothing", 99, 0, 0);
    b = new Bench();
    b.tray("#define X").x.take(1);
    b.source("#include \"#define X\"\n#ifdef X\n#error\n#endif\n" + MAIN).runs("a name without a 10", 99, 0, 0);
    b = new Bench().header("h", "\n\n#error").source("#include \"h\"");
    b.refused("lines of a header are counted behind its name", 1, 3, 1);
    b = new Bench().header("a", "").header("b", "").header("a", "#error\n").source("#include \"b\"\n#include \"a\"");
    b.refused("one given again keeps its place", 1, 1, 1);
    b = new Bench().header("h\r", "int x;").source("#include \"h\"\n" + MAIN);
    b.refused("a byte 13 is part of a name", 1, 1, 0);
  }

  /** "of which only 9, 10, 13 and 32 .. 126 may occur (else fault 1 at that line, when the text is come to)". */
  private static void bytesThatMayOccur() {
    for (int c = 0; c < 256; c++) {
      boolean may = c == 9 || c == 10 || c == 13 || c >= 32 && c <= 126;
      Bench b = new Bench().source("\n// " + (char) c + " \n" + MAIN);
      if (may) {
        b.runs("byte " + c, 99, 0, 0);
      } else {
        b.refused("byte " + c, 1, 2, 0);
      }
    }
    Bench b = new Bench().header("never", "\001").source("int main(void) { return getchar(); }").input("\001");
    b.runs("a text that is not come to, and the input", 99, 0, 0);
    Bench.due("exit code", b.x.exitCode(), 1);
    b = new Bench().argument("\200\377").source("int main(int c, char **v) { return (v[1][0] & 255) + (v[1][1] == -1); }");
    b.runs("an argument", 99, 0, 0);
    Bench.due("exit code", b.x.exitCode(), 129);
  }

  /** "Headers, input and arguments are gone, the source and the tray are empty; program and latest run stay." */
  private static void clearing() {
    Bench b = new Bench();
    b.source("int main(int c, char **v) { putchar('x'); return c * 16 + (getchar() & 15); }").input("A").argument("a");
    b.runs("a program", 99, 0, 0);
    Bench.due("exit code", b.x.exitCode(), 33);
    for (int i = 0; i < 16; i++) {
      b.header("h" + i, "").argument("a");
    }
    b.input("B").source(MAIN).tray("abc");
    int steps = b.x.steps();
    b.x.clear();
    Bench.due("the tray is empty", b.x.end(1), -1);
    Bench.due("latest run", b.x.exitCode(), 33);
    Bench.due("its steps", b.x.steps(), steps);
    Bench.due("its output", b.wrote(2), "x");
    Bench.due("the program", b.x.about(0), 1);
    Bench.due("there is room for 16 headers", fill(b, 1), 16);
    Bench.due("and 16 arguments", fill(b, 3), 16);
    b.x.clear();
    Bench.due("a run without arguments and input", b.x.run(99), 0);
    Bench.due("exit code", b.x.exitCode(), 31);
    Bench.due("the source is empty", b.x.compile(), 4);
    Bench.due("line 1", b.x.faultLine(), 1);
    b = new Bench().header("a", "int a = 5;").header("b", "int b = 6;");
    b.x.clear();
    b.header("c", "int a = 7;").header("b", "int b = 8;").source("#include \"c\"\n#include \"b\"\nint main(void) { return a * 16 + b; }").runs("headers given behind it", 9, 0, 0);
    Bench.due("are what they say then", b.x.exitCode(), 7 * 16 + 8);
    b.header("c", "").header("a", "").x.clear();
    b.header("b", "\n#error").source("#include \"b\"\n").refused("the first one given behind it", 1, 2, 1);
    b.header("a", "").x.clear();
    b.source("\n#include \"a\"\n").refused("gone", 1, 2, 0);
    FlatC x = new FlatC();
    x.clear();
    Bench.due("clear of a new object", x.run(1), -1);
  }

  private static int fill(Bench b, int what) {
    int taken = 0;
    for (int i = 0; i < 20; i++) {
      taken += b.tray("x" + i).x.take(what) >= 0 ? 1 : 0;
    }
    return taken;
  }

  /** "Compiles the source with the headers, which are used up"; "0 .. or the fault 1 .. 5". */
  private static void compiling() {
    Bench b = new Bench();
    b.header("h", "#define X 1\n").source("#include \"h\"\n" + MAIN);
    Bench.due("right", b.x.compile(), 0);
    Bench.due("the source is used up", b.x.compile(), 4);
    Bench.due("the header too", b.source("#include \"h\"\n" + MAIN).x.compile(), 1);
    b.header("h", "").source("#error");
    Bench.due("fault 1", b.x.compile(), 1);
    Bench.due("the source is used up", b.x.compile(), 4);
    Bench.due("the header is used up", b.source("#include \"h\"\n" + MAIN).x.compile(), 1);
    Bench.due("fault 2", b.source("int x = 08;").x.compile(), 2);
    Bench.due("fault 3", b.source("int x = ;").x.compile(), 3);
    Bench.due("fault 4", b.source("int x = y;").x.compile(), 4);
    Bench.due("fault 5", b.source("char x[240000];" + MAIN).x.compile(), 5);
    Bench.due("still no program", b.source("int x;").x.compile() + b.x.about(0), 4 + 1);
  }

  /** "0 if its line is one of the source, k + 1 if of header k (in the order in which they were first given)". */
  private static void faultPlaces() {
    FlatC x = new FlatC();
    Bench.due("no compiling: line", x.faultLine(), 0);
    Bench.due("no compiling: text", x.faultText(), -1);
    Bench b = new Bench();
    for (int i = 0; i < 16; i++) {
      b.header("h" + i, "\n".repeat(i) + "#error");
    }
    b.source("\n#include \"h15\"").refused("the last header", 1, 16, 16);
    for (int i = 0; i < 16; i++) {
      b.header("h" + i, "\n".repeat(i) + "#error");
    }
    b.source("\n#include \"h0\"").refused("the first header", 1, 1, 1);
    b.source("\n#error").refused("the source", 1, 2, 0);
    b.source(MAIN).runs("right", 9, 0, 0);
    Bench.due("no fault: line", b.x.faultLine(), 0);
    Bench.due("no fault: text", b.x.faultText(), -1);
    b.header("h", "\n\nundeclared x;").source("#include \"h\"").refused("a fault 3 in a header", 3, 3, 1);
    b.header("h", "\n\nint x = y;\n").source("#include \"h\"").refused("a fault 4 in a header", 4, 3, 1);
    b.header("h", "\n\nint x = 0x;\n").source("#include \"h\"").refused("a fault 2 in a header", 2, 3, 1);
    b.header("h", "\n\nint x;\n").source("\n#include \"h\"\n").refused("the last token of the unit", 4, 3, 1);
    b.header("h", "\nint f(void) { goto a;\n\n}\n").source("\n#include \"h\"\n" + MAIN).refused("the last of a function", 4, 4, 1);
    b.header("h", "#define X 1 +\n").source("#include \"h\"\nint x = X\n;").refused("what a macro puts in has the line of its name", 3, 3, 0);
    b.header("h", "#define F(x) x\nint y = F(").source("#include \"h\"\n);").refused("a call does not go on behind its text", 1, 2, 1);
  }

  /** "the program stays as it was, if there was one". */
  private static void programStays() {
    Bench b = new Bench();
    b.source("int main(void) { puts(\"one\"); return 1; }").runs("a program", 9, 0, 0);
    String[] bad = {"#error", "08", "int", "int x = y;", "char x[240000];" + MAIN};
    for (int i = 0; i < bad.length; i++) {
      Bench.due("fault", b.source(bad[i]).x.compile(), i + 1);
      Bench.due("latest run stays", b.x.exitCode(), 1);
      Bench.due("the program stays", b.x.run(9), 0);
      Bench.due("exit code", b.x.exitCode(), 1);
      Bench.due("stdout", b.wrote(2), "one\n");
      Bench.due("strings", b.x.about(2), 1);
    }
    b.source("int main(void) { return 2; }");
    Bench.due("a new one", b.x.compile(), 0);
    Bench.due("the latest run stays", b.x.exitCode(), 1);
    Bench.due("its memory too", b.x.memory(1024), 'o' | 'n' << 8 | 'e' << 16);
    b.x.run(9);
    Bench.due("exit code", b.x.exitCode(), 2);
    Bench.due("memory begins with 0", b.x.memory(1024), 0);
  }

  /** "At most 64 compilings; the 65th answers 5 with line 0 and text -1, and uses nothing up." */
  private static void sixtyFour() {
    Bench b = new Bench();
    for (int i = 0; i < 63; i++) {
      Bench.due("an empty text", b.x.compile(), 4);
    }
    b.header("h", "int x = 7;").source("#include \"h\"\nint main(void) { return x; }").runs("the 64th", 9, 0, 0);
    int pieces = b.x.pieces();
    for (int i = 0; i < 16; i++) {
      b.header("h" + i, "");
    }
    for (int i = 65; i < 68; i++) {
      b.source(MAIN);
      Bench.due("compiling " + i, b.x.compile(), 5);
      Bench.due("line", b.x.faultLine(), 0);
      Bench.due("text", b.x.faultText(), -1);
    }
    Bench.due("headers are not used up", b.tray("h16").x.take(1), -1);
    Bench.due("no pieces", b.x.pieces(), pieces);
    Bench.due("the program stays", b.x.run(9), 0);
    Bench.due("exit code", b.x.exitCode(), 7);
  }

  /** "-1 if there is no program, -2 if the fuel is not 0 .. 100000; then nothing is used up, and the latest run stays." */
  private static void running() {
    Bench b = new Bench();
    b.input("A").argument("a");
    Bench.due("no program", b.x.run(0), -1);
    Bench.due("no program, and bad fuel", b.x.run(100001), -1);
    Bench.due("nothing has run", b.x.steps() + b.x.lowest() + b.x.exitCode(), -1);
    b.source("int main(int c, char **v) { return c * 100 + getchar(); }");
    Bench.due("compile", b.x.compile(), 0);
    Bench.due("fuel -1", b.x.run(-1), -2);
    Bench.due("fuel 100001", b.x.run(100001), -2);
    Bench.due("the least fuel", b.x.run(Integer.MIN_VALUE), -2);
    Bench.due("the greatest fuel", b.x.run(Integer.MAX_VALUE), -2);
    Bench.due("nothing has run", b.x.steps() + b.x.lowest() + b.x.exitCode(), -1);
    Bench.due("fuel 100000", b.x.run(100000), 0);
    Bench.due("input and argument were there", b.x.exitCode(), 200 + 'A' & 255);
    Bench.due("fuel -1", b.x.run(-1), -2);
    Bench.due("the latest run stays", b.x.exitCode(), 200 + 'A' & 255);
    b.input("A").argument("a");
    Bench.due("fuel 0", b.x.run(0), 9);
    Bench.due("input and argument are used up", b.x.run(9), 0);
    Bench.due("exit code", b.x.exitCode(), 99);
    b.input("A").argument("a");
    Bench.due("input and argument again", b.x.run(9), 0);
    Bench.due("exit code", b.x.exitCode(), 200 + 'A' & 255);
    b.source("int main(void) { for (;;) ; }").runs("all the fuel", 100000, 9, 1);
    Bench.due("steps", b.x.steps(), 100000);
  }

  /** "OUTCOMES: 0 main came to its end or exit() was called; 1 .. 8 the traps; 9; 10 abort(); 11". */
  private static void outcomes() {
    String[] ends = {
      "return 3;", "*(char *)0 = 1;", "return main();", "return 1 / z;", "return 1 << 32 + z;", "(int)(z + 1e10);",
      "z + 1e308 * 10 - 1e308 * 10;", "((int (*)(void))(z + 5))();", "f();", "for (;;) ;", "abort();", "for (;;) puts(\"\");"
    };
    for (int i = 0; i < ends.length; i++) {
      Bench b = new Bench();
      b.source("int z; int f(void) { if (z) return 1;\n}\nint main(void) {\n\n" + ends[i] + " return 0; }");
      b.runs(ends[i], 100000, i, i == 0 ? 0 : i == 8 ? 2 : 5);
      Bench.due("exit code of " + i, b.x.exitCode(), i == 0 ? 3 : -1);
    }
    Bench.exits("int main(void) { exit(4); }", 4);
    Bench.exits("int main(void) { }", 0);
  }

  /** "The EXIT CODE is main's answer or exit's argument, & 255." */
  private static void exitCodes() {
    int[][] codes = {{0, 0}, {1, 1}, {255, 255}, {256, 0}, {257, 1}, {-1, 255}, {-256, 0}, {Integer.MIN_VALUE + 1, 1}};
    for (int[] code : codes) {
      Bench.exits("int main(void) { return " + code[0] + "; }", code[1]);
      Bench.exits("int main(void) { exit(" + code[0] + "); }", code[1]);
      Bench.exits("void f(void) { exit(" + code[0] + "); } int main(void) { atexit(f); return 77; }", code[1]);
    }
  }

  /** "How many bytes it wrote to stdout (2) or stderr (3); -1 for another number"; "Byte i of them, 0 .. 255; -1 if there is none". */
  private static void bytesWritten() {
    Bench b = new Bench();
    b.source("int main(void) { putchar(255); putchar(0); fputs(\"abc\", stderr); }").runs("bytes", 99, 0, 0);
    for (int stream : new int[] {-1, 0, 1, 4, 5, Integer.MIN_VALUE, Integer.MAX_VALUE}) {
      Bench.due("written " + stream, b.x.written(stream), -1);
      Bench.due("out " + stream, b.x.out(stream, 0), -1);
    }
    Bench.due("written 2", b.x.written(2), 2);
    Bench.due("written 3", b.x.written(3), 3);
    int[][] due = {{2, -1, -1}, {2, 0, 255}, {2, 1, 0}, {2, 2, -1}, {3, 0, 'a'}, {3, 2, 'c'}, {3, 3, -1}, {2, 300, -1},
        {2, Integer.MIN_VALUE, -1}, {2, Integer.MAX_VALUE, -1}, {3, -1, -1}};
    for (int[] row : due) {
      Bench.due("out " + row[0] + ", " + row[1], b.x.out(row[0], row[1]), row[2]);
    }
    b.source(MAIN).runs("another run", 99, 0, 0);
    Bench.due("its own bytes", b.x.written(2) + b.x.written(3), 0);
    Bench.due("no byte of the run before", b.x.out(2, 0), -1);
  }

  /** "Four bytes of the memory as it left it, from an address on, as an int, the lowest first; 0 where there are no bytes". */
  private static void memory() {
    Bench b = new Bench();
    b.source("int main(void) { char a[8] = { 1, 2, 3, 4, 5, 6, 7, 8 }; }").runs("the last bytes", 99, 0, 0);
    Bench.due("262136", b.x.memory(262136), 0x04030201);
    Bench.due("262140", b.x.memory(262140), 0x08070605);
    Bench.due("262141", b.x.memory(262141), 0x00080706);
    Bench.due("262143", b.x.memory(262143), 8);
    Bench.due("262144", b.x.memory(262144), 0);
    Bench.due("262133", b.x.memory(262133), 0x01 << 24);
    b.source("unsigned char a[4] = { 128, 255, 1, 200 };" + MAIN).runs("the first bytes", 99, 0, 0);
    Bench.due("1024", b.x.memory(1024), 200 << 24 | 1 << 16 | 255 << 8 | 128);
    Bench.due("1021", b.x.memory(1021), 128 << 24);
    Bench.due("1027", b.x.memory(1027), 200);
    for (int address : new int[] {0, -1, -3, -4, Integer.MIN_VALUE, Integer.MAX_VALUE, Integer.MAX_VALUE - 2, 0x40000000, 0x40000}) {
      Bench.due("memory " + address, b.x.memory(address), 0);
    }
  }

  /** What is answered of a run when there was none, although there is a program. */
  private static void beforeAnyRun() {
    Bench b = new Bench();
    b.source("int a = 5; int main(void) { return 0; }");
    Bench.due("compile", b.x.compile(), 0);
    Bench.due("exitCode", b.x.exitCode(), -1);
    Bench.due("trapLine", b.x.trapLine(), 0);
    Bench.due("steps", b.x.steps(), 0);
    Bench.due("written 2", b.x.written(2), 0);
    Bench.due("written 3", b.x.written(3), 0);
    Bench.due("out", b.x.out(3, 0), -1);
    Bench.due("memory", b.x.memory(1024), 0);
    Bench.due("heapEnd", b.x.heapEnd(), 0);
    Bench.due("lowest", b.x.lowest(), 0);
    Bench.due("strays", b.x.strays(), 0);
  }

  /** "The heap's end as it left it; 0 if there was none"; "lowest() is 262144 if nothing was ever on the stack". */
  private static void heapEndAndLowest() {
    Bench b = new Bench().source(MAIN).runs("nothing on the stack", 99, 0, 0);
    Bench.due("lowest", b.x.lowest(), 262144);
    Bench.due("heapEnd", b.x.heapEnd(), 1024);
    b.source("char a[16];" + MAIN).runs("a full row of 16", 99, 0, 0);
    Bench.due("heapEnd", b.x.heapEnd(), 1040);
    b.source("char a[17];" + MAIN).runs("one more", 99, 0, 0);
    Bench.due("heapEnd", b.x.heapEnd(), 1056);
    b.source("int main(void) { char c; malloc(1); return 0; }").runs("a block", 99, 0, 0);
    Bench.due("heapEnd", b.x.heapEnd(), 1040);
    Bench.due("lowest", b.x.lowest(), 262136);
    b.source("int main(void) { char c[9]; free(malloc(1)); return 0; }").runs("a block that is gone", 99, 0, 0);
    Bench.due("heapEnd", b.x.heapEnd(), 1024);
    Bench.due("lowest", b.x.lowest(), 262128);
    b.source("int f(void) { char a[24]; return 0; } int main(void) { f(); }").runs("a call", 99, 0, 0);
    Bench.due("the lowest that it reached", b.x.lowest(), 262120);
    b.source("int f(void) { char a[262144]; return 0; } int main(void) { f(); }").runs("a frame that is not made", 99, 2, 1);
    Bench.due("lowest", b.x.lowest(), 262144);
    Bench.due("the latest run", b.x.run(0), 9);
    Bench.due("lowest", b.x.lowest(), 262144);
  }

  /** "How many pieces were made in all." */
  private static void pieces() {
    FlatC x = new FlatC();
    Bench.due("none", x.pieces(), 0);
    Bench.due("an empty text", x.compile() + x.pieces(), 4);
    Bench b = new Bench();
    b.source("a b c");
    Bench.due("none before a compiling", b.x.pieces(), 0);
    b.x.compile();
    Bench.due("those of a fault 3", b.x.pieces(), 3);
    b.source("a `").x.compile();
    Bench.due("those of all compilings", b.x.pieces(), 4);
    b.x.clear();
    Bench.due("clear changes nothing", b.x.pieces(), 4);
    b.x.run(5);
    Bench.due("nor does run", b.x.pieces(), 4);
  }

  /** "the number of functions with a body (0), of objects (1), of strings in memory (2), of pieces (3), the greatest frame (4); -1". */
  private static void about() {
    Bench b = new Bench();
    for (int what = -1; what < 6; what++) {
      Bench.due("about " + what + " without a program", b.x.about(what), -1);
    }
    b.source("#error").x.compile();
    Bench.due("about 0 behind a fault", b.x.about(0), -1);
    b.source("#define T \"t\"\nint a, b[3]; extern int c, d; extern int e = 1; int f(void), g(int x) { static int s; char *p = \"x\"; return sizeof \"y\" + d; }\n"
        .replace("int f(void), g", "int f(void); int g")
        + "int d; char h[] = \"z\", *i = T \"u\"; int main(void) { double m; char n; return 0; }");
    Bench.due("compile", b.x.compile(), 0);
    Bench.due("functions with a body", b.x.about(0), 2);
    Bench.due("objects: a b e s d h i", b.x.about(1), 7);
    Bench.due("strings: x y tu", b.x.about(2), 3);
    Bench.due("the greatest frame", b.x.about(4), 16);
    for (int what : new int[] {-1, 5, Integer.MIN_VALUE, Integer.MAX_VALUE}) {
      Bench.due("about " + what, b.x.about(what), -1);
    }
    b.source("#define E\n#define P int x ;\nE P E int main E (void) { return 0 ; } // no piece").x.compile();
    Bench.due("pieces that came out", b.x.about(3), 3 + 10);
    Bench.due("no objects but x", b.x.about(1), 1);
    Bench.due("no frame", b.x.about(4), 0);
    b.source("int x =").x.compile();
    Bench.due("of the program that stays", b.x.about(3), 13);
  }
}
