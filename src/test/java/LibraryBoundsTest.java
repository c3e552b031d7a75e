/** The boundary cases of the library, sentence by sentence. */
public final class LibraryBoundsTest {
  public static void main(String[] args) {
    streamsThereAre();
    mostThatIsWritten();
    whatIsAnswered();
    reading();
    lines();
    bytesPutBack();
    letters();
    numbersOfTexts();
    strtol();
    absolute();
    floating();
    random();
    exits();
    blocks();
    cutting();
    joining();
    heapsEnd();
    clearing();
    moving();
    wrongAddresses();
    headersInMemory();
    sorting();
    sortingBounds();
    copying();
    comparing();
    searching();
    numbersOfBytes();
    widthsAndPrecisions();
    decimals();
    scanningWidths();
    scanningEnds();
    scanningPlaces();
    onlyCalled();
    behindATrap();
    headersWithoutRoom();
    Bench.finish();
  }

  private static Bench run(String input, String statements) {
    return new Bench().input(input).source("int main(void) {\n" + statements + "\n}").runs(statements, 100000, 0, 0);
  }

  private static void wrote(String input, String statements, String want) {
    Bench.due(statements, run(input, statements).wrote(2), want);
  }

  private static void holds(String expression) {
    Bench.due(expression, run("", "return (" + expression + ") + 40;").x.exitCode(), 41);
  }

  private static Bench traps(int outcome, String statements) {
    return new Bench().input("abc").source("int main(void) {\n" + statements + "\n}").runs(statements, 100000, outcome, 2);
  }

  /** "FILE * 1 is stdin, 2 stdout, 3 stderr; other values: trap 1." "putc, fputs, fprintf to stdin: trap 1, looked at first." */
  private static void streamsThereAre() {
    for (String file : new String[] {"0", "4", "5", "-1", "0x80000002", "256 + 2", "1024"}) {
      for (String call : new String[] {"putc(65, F)", "fputc(65, F)", "fputs(\"\", F)", "fprintf(F, \"\")", "getc(F)", "fgetc(F)", "fgets((char *)1024, 0, F)", "fgets((char *)0, 9, F)", "ungetc(-1, F)", "ungetc(65, F)", "fputs((char *)262143, F)"}) {
        traps(1, call.replace("F", "(FILE *)(" + file + ")") + ";");
      }
    }
    for (String call : new String[] {"putc(65, stdin)", "fputc(65, stdin)", "fputs(\"\", stdin)", "fputs((char *)0, stdin)", "fprintf(stdin, \"\")", "fprintf(stdin, (char *)0)", "fprintf(stdin, \"%q\")"}) {
      traps(1, call + ";");
    }
    wrote("ab", "char b[9]; printf(\"%d%d%d%d%d%d%d%d\", getc(stdout), getc(stderr), fgetc(stdout), ungetc(65, stdout), ungetc(65, stderr), fgets(b, 9, stdout) == 0, fgets((char *)0, 9, stderr) == 0, getc(stdin));", "-1-1-1-1-11197");
  }

  /** "11 more than 32768 bytes were written to stdout, or to stderr (the byte is not written)" */
  private static void mostThatIsWritten() {
    for (String stream : new String[] {"stdout", "stderr"}) {
      int number = stream.equals("stdout") ? 2 : 3;
      Bench b = new Bench().source("int main(void) { for (int i = 0; i < 32768; i++) putc(i, " + stream + "); return 3; }").runs("32768 bytes to " + stream, 100000, 0, 0);
      Bench.due("written", b.x.written(number), 32768);
      Bench.due("the last", b.x.out(number, 32767), 255);
      Bench.due("none behind", b.x.out(number, 32768), -1);
      b = new Bench().source("int main(void) { for (int i = 0; i < 32768; i++) putc(i, " + stream + ");\nputc('x', " + stream + "); return 3; }").runs("32769 bytes to " + stream, 100000, 11, 2);
      Bench.due("the byte is not written", b.x.written(number), 32768);
      Bench.due("no exit code", b.x.exitCode(), -1);
      b = new Bench().source("int main(void) { fprintf(" + stream + ", \"%32768d\", 1);\nfprintf(" + stream + ", \"\"); fputs(\"\", " + stream + "); return 3; }").runs("nothing more", 100000, 0, 0);
      b = new Bench().source("int main(void) { fprintf(" + stream + ", \"%32767d\", 1);\nfputs(\"ab\", " + stream + "); return 3; }").runs("one of two", 100000, 11, 2);
      Bench.due("what fits is written", b.x.out(number, 32767), 'a');
    }
    Bench b = new Bench().source("int main(void) { printf(\"%32767d\", 1);\nputs(\"\"); return 3; }").runs("the 10 of puts", 100000, 0, 0);
    b = new Bench().source("int main(void) { printf(\"%32768d\", 1);\nputs(\"\"); return 3; }").runs("no room for the 10 of puts", 100000, 11, 2);
    b = new Bench().source("int main(void) { printf(\"%32768d\", 1); fprintf(stderr, \"%32768d\", 1); return 3; }").runs("both full", 100000, 0, 0);
    b = new Bench().source("int main(void) { printf(\"%32768d\", 1);\nprintf(\"%s\", (char *)0); return 3; }").runs("nothing to be written", 100000, 1, 2);
    b = new Bench().source("char t[32770]; int main(void) { memset(t, 'x', 32768);\nfputs(t, stdout);\nfputs(t, stderr); t[32768] = 'y';\nputs(t); return 3; }").runs("a long text", 100000, 11, 4);
  }

  private static void whatIsAnswered() {
    holds("putchar(65) == 65 && putchar(256) == 0 && putchar(-1) == 255 && putc(511, stdout) == 255 && fputc(-256, stderr) == 0 && puts(\"\") == 0 && fputs(\"x\", stderr) == 0 && printf(\"\") == 0 && printf(\"%d%%\", 100) == 4 && fprintf(stderr, \"abc\") == 3");
    holds("sizeof strlen(\"\") == 4 && strlen(\"\") == 0 && strlen(\"abc\") - 4 > 0 && sizeof llabs(1) == 8 && sizeof atoll(\"1\") == 8 && sizeof fabs(1) == 8 && sizeof malloc(1) == 4 && sizeof rand() == 4");
  }

  /** "getchar, getc, fgetc: the next byte of the input or -1"; "What is read of the input is one row for all functions." */
  private static void reading() {
    StringBuilder all = new StringBuilder();
    for (int i = 0; i < 256; i++) {
      all.append((char) i);
    }
    Bench b = run(all.toString(), "for (int i = 0; i < 256; i++) if (getchar() != i) return 1; return 2 + getchar() + getc(stdin);");
    Bench.due("all bytes", b.x.exitCode(), 0);
    wrote("a7 bcd\nef", "int n; char s[9]; putchar(getchar()); scanf(\"%d\", &n); putchar(getc(stdin)); putchar(fgetc(stdin)); fgets(s, 9, stdin); printf(\"%d[%s]\", n, s); ungetc('x', stdin); scanf(\"%s\", s); puts(s);", "a b7[cd\n]xef\n");
    wrote("", "printf(\"%d%d%d\", getchar(), getc(stdin), fgetc(stdin));", "-1-1-1");
  }

  /** "up to n - 1 bytes, up to and with a 10, then a 0; 0 if n < 2 or there are none" */
  private static void lines() {
    for (int n = -1; n < 7; n++) {
      String got = n < 2 ? "" : "abc\nd".substring(0, Math.min(n - 1, 4));
      String rest = "abc\nd".substring(got.length());
      wrote("abc\nd", "char s[9] = \"xxxxxxx\"; char *p = fgets(s, " + n + ", stdin); printf(\"%d[%s]%c\", p == s, s, s[7] + 'z'); int c; while ((c = getchar()) != -1) putchar(c);", n < 2 ? "0[xxxxxxx]zabc\nd" : "1[" + got + "]z" + rest);
    }
    wrote("", "char s[9] = \"x\"; printf(\"%d%s\", fgets(s, 9, stdin) == 0, s);", "1x");
    wrote("\n", "char s[9] = \"x\"; printf(\"%d%s%d\", fgets(s, 9, stdin) == s, s, fgets(s, 9, stdin) == 0);", "1\n1");
    wrote("ab", "char s[9]; s[3] = 'q'; printf(\"%d%s%c%d\", fgets(s, 9, stdin) == s, s, s[3], fgets(s, 2, stdin) == 0);", "1abq1");
    wrote("a\0b\n", "char s[9]; printf(\"%d%d%d\", fgets(s, 9, stdin) == s, s[2], s[4]);", "1980");
    Bench b = traps(1, "fgets((char *)262142, 9, stdin);");
    Bench.due("two bytes are stored", b.x.memory(262142), 'a' | 'b' << 8);
    run("abc", "fgets((char *)262141, 3, stdin);");
    traps(1, "fgets((char *)262142, 3, stdin); fgets((char *)262143, 2, stdin);");
    traps(1, "fgets((char *)1023, 2, stdin);");
  }

  /** "ungetc: the byte c & 255 comes next (one at a time; else -1, also for c = -1): c." */
  private static void bytesPutBack() {
    wrote("ab", "printf(\"%d %d %d\", ungetc(0, stdin), ungetc('y', stdin), getchar());", "0 -1 0");
    wrote("ab", "printf(\"%d %d %d\", ungetc(511, stdin), getchar(), getchar());", "511 255 97");
    wrote("ab", "printf(\"%d %d %d\", ungetc(-2, stdin), getchar(), getchar());", "-2 254 97");
    wrote("ab", "printf(\"%d %d\", ungetc(-1, stdin), getchar());", "-1 97");
    wrote("ab", "printf(\"%d \", ungetc(255, stdin)); printf(\"%d %d\", ungetc(-1, stdin), getchar());", "255 -1 255");
    wrote("ab", "getchar(); ungetc('x', stdin); getchar(); printf(\"%d%d\", ungetc('y', stdin), getchar());", "121121");
    wrote("", "ungetc('x', stdin); printf(\"%d%d\", getchar(), getchar());", "120-1");
    wrote("2 b", "int n; char s[9]; ungetc('1', stdin); scanf(\"%d\", &n); ungetc('x', stdin); printf(\"%d\", n); fgets(s, 9, stdin); printf(\"%s\", s);", "12x b");
    wrote("ab\n", "char s[9]; ungetc(0, stdin); printf(\"%d%d%d\", fgets(s, 9, stdin) == s, s[0], s[1]);", "1097");
    wrote("", "char s[9]; ungetc(0, stdin); printf(\"%d%d%d\", fgets(s, 9, stdin) == s, s[0], s[1]);", "100");
    wrote("5", "int n = 9; ungetc(0, stdin); printf(\"%d%d\", scanf(\"%d\", &n), n);", "09");
    wrote("", "char c = 9; ungetc(0, stdin); printf(\"%d%d\", scanf(\"%c\", &c), c);", "10");
    Bench b = new Bench().input("ab").source("int main(void) { ungetc('z', stdin); return 0; }").runs("a run", 9, 0, 0);
    b.input("ab").source("int main(void) { return getchar(); }").runs("another run", 9, 0, 0);
    Bench.due("nothing is left of the run before", b.x.exitCode(), 'a');
  }

  /** "isdigit .. ispunct (int): 1 or 0, of the bytes of ASCII; toupper tolower"; "isdigit and the like look at the whole int". */
  private static void letters() {
    String names = "isdigit isalpha isalnum isspace isupper islower isxdigit isprint ispunct";
    StringBuilder code = new StringBuilder("int main(void) { for (int c = -200; c < 520; c++) { int r = 0;");
    int bit = 1;
    for (String name : names.split(" ")) {
      code.append(" if (").append(name).append("(c) != 0 && ").append(name).append("(c) != 1) return 1; r += ").append(name).append("(c) * ").append(bit).append(";");
      bit *= 2;
    }
    code.append(" printf(\"%d %d %d\\n\", r, toupper(c), tolower(c)); } }");
    StringBuilder want = new StringBuilder();
    for (int c = -200; c < 520; c++) {
      boolean digit = c >= '0' && c <= '9';
      boolean upper = c >= 'A' && c <= 'Z';
      boolean lower = c >= 'a' && c <= 'z';
      int r = (digit ? 1 : 0) + (upper || lower ? 2 : 0) + (digit || upper || lower ? 4 : 0) + (c >= 9 && c <= 13 || c == 32 ? 8 : 0) + (upper ? 16 : 0) + (lower ? 32 : 0)
          + (digit || c >= 'a' && c <= 'f' || c >= 'A' && c <= 'F' ? 64 : 0) + (c >= 32 && c <= 126 ? 128 : 0) + (c > 32 && c <= 126 && !digit && !upper && !lower ? 256 : 0);
      want.append(r).append(' ').append(lower ? c - 32 : c).append(' ').append(upper ? c + 32 : c).append('\n');
    }
    Bench b = new Bench().source(code.toString()).runs("letters", 100000, 0, 0);
    Bench.due("letters", b.wrote(2), want.toString());
    holds("isdigit(256 + '0') == 0 && isalpha('a' - 256) == 0 && isspace(0x20000020) == 0 && toupper(256 + 'a') == 256 + 'a' && tolower(-1) == -1");
  }

  /** "int atoi, atol; long long atoll: blanks, sign, digits, wrapping" */
  private static void numbersOfTexts() {
    holds("atoi(\"\") == 0 && atoi(\"x\") == 0 && atoi(\"-\") == 0 && atoi(\"+\") == 0 && atoi(\"- 5\") == 0 && atoi(\"+-5\") == 0 && atoi(\"12x\") == 12 && atoi(\" \\t\\n\\v\\f\\r-12 3\") == -12 && atoi(\"+7\") == 7 && atoi(\"007\") == 7 && atoi(\"0x10\") == 0 && atoi(\"\\b5\") == 0");
    holds("atoi(\"2147483647\") == 2147483647 && atoi(\"2147483648\") == -2147483647 - 1 && atoi(\"-2147483648\") == -2147483647 - 1 && atoi(\"4294967296\") == 0 && atoi(\"18446744073709551617\") == 1 && atol(\"4294967297\") == 1 && atol(\"-4294967297\") == -1");
    holds("atoll(\"9223372036854775807\") == LLONG_MAX && atoll(\"9223372036854775808\") == -LLONG_MAX - 1 && atoll(\"-9223372036854775808\") == -LLONG_MAX - 1 && atoll(\"18446744073709551616\") == 0 && atoll(\" -4294967296\") == -4294967296");
    traps(1, "atoi((char *)0);");
    traps(1, "char *p = (char *)262140; memset(p, '1', 4); atoi(p);");
    traps(1, "char *p = (char *)262140; memset(p, ' ', 4); atoll(p);");
  }

  /** "strtol .. (base 0, 2 .. 36, else 0; wrapping; the pointer, if not 0, gets the place behind the digits, or the beginning)"; "0x for bases 16 and 0 if a digit follows, and a leading 0 as octal for base 0" */
  private static void strtol() {
    Object[][] rows = {{"12", 10, 12, 2}, {"12", 0, 12, 2}, {"012", 0, 10, 3}, {"0x12", 0, 18, 4}, {"0X1f", 0, 31, 4}, {"0x12", 16, 18, 4}, {"0x12", 10, 0, 1}, {"0x", 16, 0, 1}, {"0x", 0, 0, 1}, {"0xg", 16, 0, 1}, {"0xg", 0, 0, 1}, {"0", 0, 0, 1}, {"08", 0, 0, 1},
        {"089", 0, 0, 1}, {"078", 0, 7, 2}, {"101", 2, 5, 3}, {"102", 2, 2, 2}, {"2", 2, 0, 0}, {"zZ", 36, 1295, 2}, {"zz", 35, 0, 0}, {"yy", 35, 1224, 2}, {"9a", 10, 9, 1}, {"9a", 11, 109, 2}, {"7", 8, 7, 1}, {"8", 8, 0, 0}, {"ff", 16, 255, 2}, {"fg", 16, 15, 1}, {"-ff", 16, -255, 3},
        {"-0x10", 16, -16, 5}, {"+0x10", 0, 16, 5}, {" \t\n12", 10, 12, 5}, {"- 12", 10, 0, 0}, {"", 10, 0, 0}, {"  ", 10, 0, 0}, {"+", 10, 0, 0}, {"-", 0, 0, 0}, {"  x", 10, 0, 0}, {"4294967297", 10, 1, 10}, {"-2147483649", 10, 2147483647, 11}, {"18446744073709551617", 10, 1, 20},
        {"1x5", 16, 1, 1}, {"1:5", 16, 1, 1}, {"1/5", 16, 1, 1}, {"1@5", 16, 1, 1}, {"1`5", 16, 1, 1}, {"1G5", 16, 1, 1}, {"1{5", 36, 1, 1}, {"1[5", 36, 1, 1}, {"FfAa", 16, 65450, 4}, {"ZzAa", 36, 1678690, 4}, {"1x5", 0, 1, 1}, {"00x5", 16, 0, 2}, {"0b1", 2, 0, 1}, {"12", 1, 0, 0}, {"00", 1, 0, 0}, {" 0", 1, 0, 0}, {"0xf", 16, 15, 3}, {"0xF", 0, 15, 3}, {"0xe", 16, 14, 3}, {"0Xfe", 16, 254, 4}, {"12", 37, 0, 0}, {"12", -1, 0, 0}, {"12", -10, 0, 0}, {"12", 2147483647, 0, 0}, {"0x1", 36, 33 * 36 + 1, 3}, {"0x1", 33, 0, 1}, {"0x1", 34, 33 * 34 + 1, 3}};
    for (Object[] row : rows) {
      String text = ((String) row[0]).replace("\t", "\\t").replace("\n", "\\n");
      wrote("", "char *e = (char *)-1, *t = \"" + text + "\"; printf(\"%d \", strtol(t, &e, " + row[1] + ")); printf(\"%d %d\", e - t, strtol(t, 0, " + row[1] + "));", row[2] + " " + row[3] + " " + row[2]);
    }
    traps(1, "strtol((char *)0, 0, 10);");
    traps(1, "strtol(\"1\", (char **)1023, 10);");
    traps(1, "strtol(\"1\", (char **)262141, 10);");
    run("", "strtol(\"1\", (char **)262140, 10);");
  }

  private static void absolute() {
    holds("abs(-5) == 5 && abs(5) == 5 && abs(0) == 0 && abs(-2147483647) == 2147483647 && abs(-2147483647 - 1) == -2147483647 - 1 && labs(-7) == 7 && labs(-2147483647 - 1) == -2147483647 - 1 && llabs(-5000000000) == 5000000000 && llabs(-LLONG_MAX - 1) == -LLONG_MAX - 1 && abs(4294967295ll) == 1");
  }

  /** "double sqrt(double): the nearest, trap 6 below 0"; "floor and ceil keep -0.0, ceil(-0.5) is -0.0, fabs(-0.0) 0.0" */
  private static void floating() {
    holds("sqrt(0) == 0 && sqrt(4) == 2 && sqrt(2) == 0x1.6a09e667f3bcdp0 && sqrt(0x1p-1074 * 1) > 0 && 1 / sqrt(-0.0) < 0 && sqrt(1e308 * 10) > 1e308 && sqrt(0.25) == 0.5 && sqrt(3) * sqrt(3) != 3");
    traps(6, "sqrt(-1);");
    traps(6, "sqrt(-0x1p-400);");
    traps(6, "sqrt(-1e308 * 10);");
    holds("floor(2.5) == 2 && floor(-2.5) == -3 && floor(2) == 2 && floor(-2) == -2 && floor(0.5) == 0 && floor(-0.5) == -1 && ceil(2.5) == 3 && ceil(-2.5) == -2 && ceil(2) == 2 && ceil(0.5) == 1 && ceil(-0.5) == 0 && ceil(1e300) == 1e300 && floor(-1e300) == -1e300");
    holds("1 / floor(-0.0) < 0 && 1 / ceil(-0.0) < 0 && 1 / ceil(-0.5) < 0 && 1 / ceil(-0.999) < 0 && 1 / fabs(-0.0) > 0 && 1 / fabs(0.0) > 0 && 1 / floor(0.0) > 0 && 1 / floor(0.5) > 0 && 1 / ceil(0.0) > 0");
    holds("fabs(-2.5) == 2.5 && fabs(2.5) == 2.5 && fabs(-1e308 * 10) > 1e308 && floor(1e308 * 10) > 1e308 && ceil(-1e308 * 10) < -1e308 && fabs(-3) == 3");
    holds("floor(0x1.fffffffffffffp51) == 4503599627370495 && ceil(0x1.fffffffffffffp51) == 4503599627370496 && floor(-0x1.fffffffffffffp51) == -4503599627370496 && ceil(-0x1.fffffffffffffp51) == -4503599627370495 && floor(0x1.0000000000001p52) == 4503599627370497");
  }

  /** "the state x, 1 at first, becomes x * 1103515245 + 12345, the answer is x >> 16 & 32767" */
  private static void random() {
    StringBuilder want = new StringBuilder();
    for (int seed : new int[] {1, 0, -1, 12345}) {
      int x = seed;
      for (int i = 0; i < 20; i++) {
        x = x * 1103515245 + 12345;
        want.append(x >> 16 & 32767).append(' ');
      }
    }
    wrote("", "int i; for (i = 0; i < 20; i++) printf(\"%d \", rand()); srand(0); for (i = 0; i < 20; i++) printf(\"%d \", rand()); srand(4294967295u); for (i = 0; i < 20; i++) printf(\"%d \", rand()); srand(12345); for (i = 0; i < 20; i++) printf(\"%d \", rand());", want.toString());
    Bench b = new Bench().source("int main(void) { srand(7); return 0; }").runs("a run", 9, 0, 0);
    b.source("int main(void) { return rand() == 16838; }").runs("another", 9, 0, 0);
    Bench.due("it begins with 1 again", b.x.exitCode(), 1);
  }

  /** "int atexit: at most 32, 0 (1 if there are 32): called in reverse order when main ended or exit was called (exit inside: no more of them)" */
  private static void exits() {
    Bench b = new Bench().source("int n; void e(void) { n++; putchar('a' + n % 26); } int main(void) { int r = 0; for (int i = 0; i < 33; i++) r = r * 2 + atexit(e); return r; }").runs("33 of them", 9999, 0, 0);
    Bench.due("the 33rd is refused", b.x.exitCode(), 1);
    Bench.due("32 are called", b.x.written(2), 32);
    String three = "void a(void) { putchar('a'); } void b(void) { putchar('b'); } void c(void) { putchar('c'); } ";
    Bench.due("reverse order", Bench.writes(three + "int main(void) { atexit(a); atexit(b); atexit(c); atexit(b); return 5; }", "bcba").x.exitCode(), 5);
    Bench.due("by exit", Bench.writes(three + "int main(void) { atexit(a); atexit(b); exit(6); atexit(c); }", "ba").x.exitCode(), 6);
    Bench.due("exit inside", Bench.writes(three + "void x(void) { putchar('x'); exit(7); } int main(void) { atexit(a); atexit(x); atexit(b); return 5; }", "bx").x.exitCode(), 7);
    Bench.due("exit inside behind exit", Bench.writes(three + "void x(void) { putchar('x'); exit(7); } int main(void) { atexit(a); atexit(x); atexit(b); exit(5); }", "bx").x.exitCode(), 7);
    Bench.due("one given meanwhile is called next", Bench.writes(three + "void x(void) { putchar('x'); atexit(c); atexit(b); putchar('y'); } int main(void) { atexit(a); atexit(x); return 5; }", "xybca").x.exitCode(), 5);
    Bench.due("exit while objects are initialised", Bench.writes(three + "int f(void) { atexit(a); exit(8); return 1; } int x = f(); int main(void) { putchar('m'); return 5; }", "a").x.exitCode(), 8);
    Bench.due("given while objects are initialised", Bench.writes(three + "int x = atexit(a); int main(void) { putchar('m'); return 5; }", "ma").x.exitCode(), 5);
    b = new Bench().source(three + "void t(void) {\n*(char *)0; }\nint main(void) { atexit(a); atexit(t); atexit(b); return 5; }").runs("a trap at the end", 99, 1, 2);
    Bench.due("the rest is not called", b.wrote(2), "b");
    b = new Bench().source(three + "int main(void) { atexit(a);\nabort(); }").runs("abort", 99, 10, 2);
    Bench.due("nothing is called", b.wrote(2), "");
    // "the functions of atexit are called with the stack's end at 262144 and no active calls"
    b = new Bench().source("void e(void) { int x = 5; } int f(void) { int z[100]; exit(3); return 0; } int main(void) { int y[10]; atexit(e); f(); }").runs("from a call", 99, 0, 0);
    Bench.due("x is the stack's first", b.x.memory(262136), 5);
    Bench.due("32 again when some were called", Bench.writes("int n; void e(void) { if (n++ == 0) { int r = 0; for (int i = 0; i < 3; i++) r = r * 10 + atexit(e); printf(\"%d\", r); } } int main(void) { for (int i = 0; i < 32; i++) atexit(e); return 0; }", "11").x.exitCode(), 0);
  }

  /** "malloc: n rounded up to a multiple of 8, at least 8"; "0 if n is above 240000" */
  private static void blocks() {
    int[][] sizes = {{0, 8}, {1, 8}, {7, 8}, {8, 8}, {9, 16}, {16, 16}, {17, 24}, {239993, 240000}, {240000, 240000}};
    for (int[] size : sizes) {
      Bench b = run("", "return malloc(" + size[0] + ") == (void *)1032;");
      Bench.due("its address", b.x.exitCode(), 1);
      Bench.due("heapEnd " + size[0], b.x.heapEnd(), 1024 + 8 + size[1]);
      Bench.due("header " + size[0], b.x.memory(1024), size[1]);
      Bench.due("taken " + size[0], b.x.memory(1028), 1);
    }
    for (String much : new String[] {"240001", "4294967295u", "-1", "2147483648u", "4294967289u"}) {
      Bench b = run("", "return malloc(" + much + ") == 0;");
      Bench.due("none", b.x.exitCode(), 1);
      Bench.due("heapEnd " + much, b.x.heapEnd(), 1024);
    }
  }

  /** "the first free block that is as large; is at least 16 larger, it is cut, the rest is a free block"; "one of its size less n less 8" */
  private static void cutting() {
    for (int more = 0; more <= 40; more += 8) {
      Bench b = run("", "char *p = malloc(" + (32 + more) + "); malloc(1); free(p); char *q = malloc(32); return q == p;");
      Bench.due("the same place", b.x.exitCode(), 1);
      Bench.due("its size with " + more, b.x.memory(1024), more >= 16 ? 32 : 32 + more);
      Bench.due("taken", b.x.memory(1028), 1);
      if (more >= 16) {
        Bench.due("the rest's size with " + more, b.x.memory(1024 + 40), more - 8);
        Bench.due("the rest is free", b.x.memory(1024 + 44), 0);
      }
    }
    // The first that is as large, not the one that fits best.
    Bench b = run("", "char *p[6]; int i; for (i = 0; i < 6; i++) p[i] = malloc(i == 0 ? 8 : i == 2 ? 64 : 24); free(p[0]); free(p[2]); free(p[4]); char *q = malloc(24), *r = malloc(8), *s = malloc(24), *t = malloc(24);"
        + " return (q == p[2]) + 2 * (r == p[0]) + 4 * (s == p[2] + 32) + 8 * (t == p[4]);");
    Bench.due("the first that is as large", b.x.exitCode(), 15);
    b = run("", "char *p = malloc(24); malloc(1); free(p); return malloc(25) != p && malloc(24) == p;");
    Bench.due("one that is too small", b.x.exitCode(), 1);
    // "malloc looks for a free block for any n, then answers 0 above 240000"
    b = run("", "char *p = malloc(240000), *q = malloc(8); malloc(8); free(p); free(q); return malloc(240017) == 0 && calloc(1, 240001) == 0 && malloc(240001) == p;");
    Bench.due("a free block of 240016", b.x.exitCode(), 1);
    Bench.due("it is not cut", b.x.memory(1024), 240016);
    b = run("", "char *p = malloc(24); malloc(1); free(p); return malloc(240001) == 0 && malloc(24) == p;");
    Bench.due("as it was", b.x.exitCode(), 1);
  }

  /** "it is free then, and joined with a free block right behind it, then with one right before it; is it the last block, the heap's end comes down to its beginning" */
  private static void joining() {
    String four = "char *p[5]; for (int i = 0; i < 4; i++) p[i] = malloc(24); ";
    Bench b = run("", four + "free(p[1]);");
    Bench.due("alone", b.x.memory(1056), 24);
    Bench.due("free", b.x.memory(1060), 0);
    b = run("", four + "free(p[1]); free(p[2]);");
    Bench.due("with one before it", b.x.memory(1056), 56);
    Bench.due("heapEnd", b.x.heapEnd(), 1152);
    b = run("", four + "free(p[2]); free(p[1]);");
    Bench.due("with one behind it", b.x.memory(1056), 56);
    b = run("", four + "free(p[0]); free(p[2]); free(p[1]);");
    Bench.due("with both", b.x.memory(1024), 88);
    Bench.due("the header between stays", b.x.memory(1056), 56);
    b = run("", four + "free(p[3]);");
    Bench.due("the last", b.x.heapEnd(), 1120);
    Bench.due("its header got 0", b.x.memory(1124), 0);
    b = run("", four + "free(p[2]); free(p[3]);");
    Bench.due("the last with one before it", b.x.heapEnd(), 1088);
    b = run("", four + "free(p[3]); free(p[2]); free(p[1]); free(p[0]);");
    Bench.due("all", b.x.heapEnd(), 1024);
    b = run("", four + "free(p[0]); free(p[2]); free(p[1]); free(p[3]);");
    Bench.due("all", b.x.heapEnd(), 1024);
    b = run("", "free(malloc(1)); return malloc(1) == (void *)1032;");
    Bench.due("what lies behind the heap's end is no block", b.x.exitCode(), 1);
    Bench.due("heapEnd", b.x.heapEnd(), 1040);
    b = run("", "char *p = malloc(1), *q = malloc(100); free(q); free(p); return malloc(50) == (void *)1032;");
    Bench.due("nor what lay there", b.x.exitCode(), 1);
    Bench.due("heapEnd", b.x.heapEnd(), 1088);
    b = run("", four + "free(0); free(p[1]); free(0);");
    Bench.due("free(0) does nothing", b.x.heapEnd(), 1152);
  }

  /** "or the heap's end would come above the stack's end less 4096" */
  private static void heapsEnd() {
    // The stack's end in main is 262136, so the heap goes up to 258040.
    String head = "char heap[238976]; int main(void) { char *p; ";
    for (int[] row : new int[][] {{18032, 1}, {18033, 0}, {18025, 1}, {18040, 0}}) {
      Bench b = new Bench().source(head + "p = malloc(" + row[0] + "); return p != 0; }").runs("malloc " + row[0], 99, 0, 0);
      Bench.due("malloc of " + row[0], b.x.exitCode(), row[1]);
      Bench.due("heapEnd", b.x.heapEnd(), row[1] == 1 ? 258040 : 240000);
    }
    Bench b = new Bench().source("char heap[238976]; void *f(void) { char a[16]; return malloc(18032); } int main(void) { return f() != 0; }").runs("in a call", 99, 0, 0);
    Bench.due("the stack is longer", b.x.exitCode(), 0);
    b = new Bench().source("char heap[238976]; void *f(void) { char a[16]; return malloc(18024); } int main(void) { return f() != 0; }").runs("in a call", 99, 0, 0);
    Bench.due("it is just enough", b.x.exitCode(), 1);
    b = new Bench().source(head + "p = calloc(1, 18033); return p == 0 && realloc(0, 18033) == 0; }").runs("calloc without room", 99, 0, 0);
    Bench.due("0", b.x.exitCode(), 1);
    // A free block does not ask for the stack.
    b = new Bench().source("char heap[238972]; void *p; void *f(void) { char a[4000]; return malloc(8000); } int main(void) { p = malloc(8000); malloc(10000); free(p); return f() == p; }").runs("a free block", 99, 0, 0);
    Bench.due("the free block", b.x.exitCode(), 1);
  }

  /** "calloc: the product (0 if it is above 240000), made 0"; "calloc(0, x) is malloc(0)" */
  private static void clearing() {
    Object[][] rows = {{"1, 1", 8}, {"3, 5", 16}, {"0, 0", 8}, {"0, 5", 8}, {"5, 0", 8}, {"0, -1", 8}, {"-1, 0", 8}, {"1, 240000", 240000}, {"240000, 1", 240000}, {"600, 400", 240000}, {"1, 240001", -8}, {"240001, 1", -8}, {"7, 34286", -8}, {"65536, 65536", -8}, {"-1, -1", -8}, {"4294967295u, 2", -8},
        {"2, 2147483648u", -8}, {"65537, 65535", -8}};
    for (Object[] row : rows) {
      Bench b = run("", "return calloc(" + row[0] + ") == 0;");
      Bench.due("calloc " + row[0], b.x.heapEnd(), 1024 + 8 + (Integer) row[1]);
      Bench.due("its answer", b.x.exitCode(), (Integer) row[1] < 0 ? 1 : 0);
    }
    Bench b = run("", "char *p = malloc(16), *q = malloc(1); memset(p, 7, 16); free(p); p = calloc(3, 3); return p[0] + p[8] + p[9] * 2 + p[15];");
    Bench.due("only the product is made 0", b.x.exitCode(), 7 * 3);
    b = run("", "char *p = malloc(16), *q = malloc(1); memset(p, 7, 16); free(p); p = calloc(0, 3); return p[0];");
    Bench.due("nothing is made 0", b.x.exitCode(), 7);
  }

  /** "realloc(0, n) is malloc(n); n = 0: frees, 0; if its block is as large as n rounded up it stays; else malloc, copy of the old bytes, free (0 and nothing else if there is no room)" */
  private static void moving() {
    for (int n = 1; n <= 24; n++) {
      Bench b = run("", "char *p = malloc(24); return realloc(p, " + n + ") == p;");
      Bench.due("it stays with " + n, b.x.exitCode(), 1);
      Bench.due("it does not cut", b.x.memory(1024), 24);
    }
    for (int n = 57; n <= 72; n++) {
      Bench b = run("", "char *p = malloc(64), *q = malloc(8); return realloc(p, " + n + ") == p;");
      Bench.due("64 bytes for " + n, b.x.exitCode(), n <= 64 ? 1 : 0);
      Bench.due("heapEnd", b.x.heapEnd(), 1024 + 72 + 16 + (n <= 64 ? 0 : 80));
    }
    Bench b = run("", "char *p = malloc(24), *q; memset(p, 5, 24); p[23] = 6; q = realloc(p, 25); return q == p + 32 && q[0] == 5 && q[23] == 6 && q[24] == 0;");
    Bench.due("it moves", b.x.exitCode(), 1);
    Bench.due("the old one is free", b.x.memory(1028), 0);
    Bench.due("heapEnd", b.x.heapEnd(), 1024 + 32 + 40);
    b = run("", "char *p = malloc(24); return realloc(p, 0) == 0;");
    Bench.due("0", b.x.exitCode(), 1);
    Bench.due("it is freed", b.x.heapEnd(), 1024);
    b = run("", "return realloc(0, 0) == (void *)1032;");
    Bench.due("as malloc(0)", b.x.exitCode(), 1);
    Bench.due("a block of 8", b.x.heapEnd(), 1040);
    b = run("", "return realloc(0, 9) == (void *)1032 && realloc(0, 240001) == 0;");
    Bench.due("as malloc", b.x.exitCode(), 1);
    b = run("", "char *p = malloc(24); p[0] = 9; return realloc(p, 240001) == 0 && p[0] == 9;");
    Bench.due("no room", b.x.exitCode(), 1);
    Bench.due("nothing else", b.x.memory(1028), 1);
    Bench.due("heapEnd", b.x.heapEnd(), 1056);
    // The block that stays counts with what it has beyond what was asked for.
    b = run("", "char *p = malloc(40), *q; malloc(1); free(p); q = malloc(32); return q == p && realloc(q, 40) == q;");
    Bench.due("a block that was not cut", b.x.exitCode(), 1);
    b = run("", "char *p = malloc(8), *q = malloc(8); free(p); return realloc(q, 8) == q && (char *)realloc(q, 16) == q + 16;");
    Bench.due("behind, as the free one is too small", b.x.exitCode(), 1);
  }

  /** "an address that is not that of a taken block's bytes: trap 1"; "realloc of an address that is not that of the bytes of a taken block: trap 1" */
  private static void wrongAddresses() {
    for (String bad : new String[] {"p + 1", "p - 8", "p + 8", "p + 32", "(char *)1", "(char *)1024", "(char *)-1", "(char *)262144", "q", "\"x\"", "(char *)&p", "q + 8"}) {
      for (String call : new String[] {"free(@);", "realloc(@, 8);", "realloc(@, 0);", "realloc(@, 240001);"}) {
        traps(1, "char *p = malloc(24), *q = malloc(8); malloc(1); free(q); " + call.replace("@", bad));
      }
    }
    traps(1, "char *p = malloc(24); free(p); free(p);");
    traps(1, "free((char *)1032);");
  }

  /** "The heap is read as it stands in memory: .. the next block 8 and the size (the header's first int, without sign) behind ..; a block is taken if the second int is 1, else free." */
  private static void headersInMemory() {
    Bench b = run("", "int *p = malloc(8); malloc(8); p[-1] = 2; return malloc(8) == p;");
    Bench.due("2 is free", b.x.exitCode(), 1);
    for (int size = 8; size < 28; size++) {
      b = run("", "int *p = malloc(24); malloc(8); free(p); p[-2] = " + size + "; return malloc(8) == p;");
      Bench.due("a size of " + size, b.x.exitCode(), 1);
      Bench.due("it is cut if it is at least 16 larger", b.x.memory(1024), size < 24 ? size : 8);
      Bench.due("what is left", b.x.memory(1040), size < 24 ? 0 : size - 16);
    }
    traps(1, "int *p = malloc(8); malloc(8); p[-1] = 0; free(p);");
    traps(1, "int *p = malloc(8); malloc(8); p[-1] = -1; realloc(p, 8);");
    b = run("", "int *p = malloc(8); malloc(24); p[-2] = 40; p[-1] = 0; return malloc(40) == p;");
    Bench.due("the size as it stands there", b.x.exitCode(), 1);
    b = run("", "int *p = malloc(8), *q = malloc(24); p[-2] = 0x80000000; return malloc(8) == q + 8 && realloc(p, 100) == p;");
    Bench.due("the size is without sign", b.x.exitCode(), 1);
    b = run("", "int *p = malloc(8), *q = malloc(24); p[-2] = 0x01000000; return malloc(8) == q + 8 && realloc(p, 100) == p;");
    Bench.due("all four bytes of the size count", b.x.exitCode(), 1);
    b = run("", "int *p = malloc(8); malloc(8); p[-1] = -1; return malloc(8) == p;");
    Bench.due("-1 is free", b.x.exitCode(), 1);
    Bench.due("a header is written whole", b.x.memory(1028), 1);
    b = run("", "int *p = malloc(8), *q = malloc(24); p[-2] = 40; free(p);");
    Bench.due("as it stands, it ends at the heap's end", b.x.heapEnd(), 1024);
    b = run("", "int *p = malloc(8), *q = malloc(24); p[-2] = 48; free(p);");
    Bench.due("beyond it", b.x.heapEnd(), 1072);
    b = run("", "int *p = malloc(16); p[-2] = 0; free(p);");
    Bench.due("a block without bytes is joined with what stands there as one", b.x.memory(1024), 8);
    Bench.due("heapEnd", b.x.heapEnd(), 1048);
    b = run("", "int *p = malloc(16); p[-2] = 0; p[1] = 1; free(p + 2); free(p);");
    Bench.due("one after the other they are the last", b.x.heapEnd(), 1024);
  }

  /** "by insertion: for i from 1: element i goes down past each element before it that compares above 0 with it" */
  private static void sorting() {
    String log = "int v[5] = { 3, 1, 2, 1, 0 }; int c(const void *a, const void *b) { printf(\"%d%d \", *(const int *)a, *(const int *)b); return *(const int *)a - *(const int *)b; } int main(void) { qsort(v, 5, 4, c); for (int i = 0; i < 5; i++) printf(\"%d\", v[i]); }";
    Bench.writes(log, "31 32 12 31 21 11 30 20 10 10 01123");
    Bench.writes("struct { char k, n; } v[6] = { 2, 'a', 1, 'b', 2, 'c', 1, 'd', 2, 'e', 1, 'f' }; int c(const void *a, const void *b) { return *(const char *)a - *(const char *)b; } int main(void) { qsort(v, 6, 2, c); for (int i = 0; i < 6; i++) putchar(v[i].n); }", "bdface");
    Bench.writes("char v[] = \"qwerty\"; int c(const void *a, const void *b) { return 0; } int main(void) { qsort(v, 6, 1, c); fputs(v, stdout); }", "qwerty");
    Bench.writes("char v[] = \"qwerty\"; int c(const void *a, const void *b) { return 1; } int main(void) { qsort(v, 6, 1, c); fputs(v, stdout); }", "ytrewq");
    Bench.writes("char v[] = \"qwerty\"; int c(const void *a, const void *b) { return -1; } int main(void) { qsort(v, 6, 1, c); fputs(v, stdout); }", "qwerty");
    // "called with that element's address and that of a copy"; "each element passed is moved up at once".
    Bench.writes("char v[] = \"cba\"; int c(const void *a, const void *b) { printf(\"%d%s \", (const char *)a - v, v); return *(const char *)a - *(const char *)b; } int main(void) { qsort(v, 3, 1, c); fputs(v, stdout); }", "0cba 1bca 0bcc abc");
  }

  /** "qsort does nothing at all with n below 2 or size 0; else the stack's end goes down once for the whole call"; "qsort's copy below the heap's end is trap 2"; "element addresses are exact (beyond the memory: trap 1)" */
  private static void sortingBounds() {
    String c = "int v[4] = { 4, 3, 2, 1 }; int c(const void *a, const void *b) { return *(const char *)a - *(const char *)b; }\n";
    for (String nothing : new String[] {"qsort(v, 0, 4, c)", "qsort(v, 1, 4, c)", "qsort(v, 4, 0, c)", "qsort(0, 1, 4, 0)", "qsort(0, 4294967295u, 0, 0)", "qsort(v, 1, 4294967295u, c)", "qsort(v, 0, 300000, c)"}) {
      Bench b = new Bench().source(c + "int main(void) { " + nothing + "; return v[0]; }").runs(nothing, 99, 0, 0);
      Bench.due("nothing is sorted", b.x.exitCode(), 4);
      Bench.due("nothing on the stack", b.x.lowest(), 262144);
    }
    for (int size : new int[] {1, 4, 7, 8, 9, 16}) {
      Bench b = new Bench().source("char v[64]; int c(const void *a, const void *b) { return 0; }\nint main(void) { qsort(v, 2, " + size + ", c); return 0; }").runs("size " + size, 99, 0, 0);
      Bench.due("the stack's end with size " + size, b.x.lowest(), 262144 - 8 - (size + 7) / 8 * 8);
      Bench.due("one call", b.x.steps(), 5);
    }
    String heap = "char heap[238976]; int c(const void *a, const void *b) { return 0; }\nint main(void) {\n";
    new Bench().source(heap + "qsort(heap, 2, 22136, c); return 0; }").runs("a copy and a frame down to the heap's end", 99, 0, 0);
    new Bench().source(heap + "qsort(heap, 2, 22137, c); return 0; }").runs("no room for the frame", 99, 2, 3);
    Bench b2 = new Bench().source(heap + "qsort(heap, 2, 22144, c); return 0; }").runs("a copy down to the heap's end", 99, 2, 3);
    Bench.due("the copy is there", b2.x.lowest(), 240000);
    new Bench().source(heap + "qsort(heap, 2, 22145, c); return 0; }").runs("below it", 99, 2, 3);
    b2 = new Bench().source(heap + "qsort(heap, 2, 22145, c); return 0; }").runs("below it", 99, 2, 3);
    Bench.due("no copy", b2.x.lowest(), 262144);
    new Bench().source(heap + "qsort(heap, 2, 4294967295u, c); return 0; }").runs("far below it", 99, 2, 3);
    new Bench().source("int c(const void *a, const void *b) { return 0; }\nint main(void) {\nqsort((void *)262140, 2, 4, c); return 0; }").runs("element 1 beyond the memory", 99, 1, 3);
    new Bench().source("int c(const void *a, const void *b) { return 0; }\nint main(void) {\nqsort((void *)1000, 9, 4, c); return 0; }").runs("element 1 below 1024", 99, 1, 3);
    new Bench().source("int c(const void *a, const void *b) { return *(const char *)a < 0; }\nint main(void) {\nqsort((void *)1020, 2, 4, c); return 0; }").runs("element 0 below 1024", 99, 1, 1);
    new Bench().source("int c(const void *a, const void *b) { return 1; }\nint main(void) {\nqsort((void *)1020, 2, 4, c); return 0; }").runs("element 0 moved", 99, 1, 3);
    new Bench().source("char v[9]; int c(const void *a, const void *b) { return 0; }\nint main(void) {\nqsort(v, 4294967295u, 8, c); return 0; }").runs("up to the memory's end", 100000, 1, 3);
  }

  /** "memcpy copies upwards whatever overlaps, strncpy fills with 0"; "memmove goes downwards if the destination is above the source"; "n = 0 touches nothing (but strncat its first text)" */
  private static void copying() {
    wrote("", "char a[9] = \"abcdefgh\"; memcpy(a + 1, a, 4); puts(a); memcpy(a, a + 5, 3); puts(a); memmove(a + 1, a, 4); puts(a); memmove(a, a + 1, 4); puts(a);", "aaaaafgh\nfghaafgh\nffghafgh\nfghaafgh\n");
    wrote("", "char a[9] = \"xxxxxxxx\"; strncpy(a, \"abc\", 2); printf(\"%s \", a); strncpy(a, \"ab\", 5); printf(\"%s%s \", a, a + 5); strncpy(a, \"abc\", 0); strncpy(a, \"zz\", 3); printf(\"%s%c\", a, a[5]);", "abxxxxxx abxxx zzx");
    wrote("", "char a[9] = \"ab\"; a[4] = 'q'; strcat(a, \"c\"); strncat(a, \"def\", 2); printf(\"%s \", a); strncat(a, \"\", 5); strncat(a, \"xyz\", 0); printf(\"%s \", a); strncat(a, \"gh\", 9); puts(a);", "abcde abcde abcdegh\n");
    wrote("", "char a[9] = \"abc\"; printf(\"%d%d%d%d%d%d%d\", strcpy(a, \"x\") == a, strcat(a, \"y\") == a, strncpy(a, \"z\", 1) == a, strncat(a, \"w\", 1) == a, memcpy(a, a, 1) == a, memmove(a, a, 1) == a, memset(a, 0, 1) == a);", "1111111");
    wrote("", "unsigned char a[4]; memset(a, 300, 4); memset(a + 1, -1, 1); memset(a, 5, 0); printf(\"%d %d\", a[0], a[1]);", "44 255");
    wrote("", "char a[9] = \"abzzzzzz\"; a[2] = 0; strncat(a, \"cd\", 1); printf(\"%s%c \", a, a[4]); a[3] = 'y'; a[2] = 0; strncat(a, \"\", 3); printf(\"%s%c \", a, a[3]); strncat(a, \"q\", 5); printf(\"%s%c\", a, a[4]);", "abcz aby abqz");
    for (String nothing : new String[] {"memcpy(0, 0, 0)", "memmove((void *)-1, 0, 0)", "memset(0, 1, 0)", "strncpy(0, 0, 0)", "strncmp(0, 0, 0)", "memcmp(0, 0, 0)", "memchr(0, 1, 0)"}) {
      run("", nothing + ";");
    }
    traps(1, "strncat(0, \"a\", 0);");
    run("", "char a[3] = \"x\"; strncat(a, 0, 0);");
    Bench b = traps(1, "char *p = (char *)262140; strcpy(p, \"abcdef\");");
    Bench.due("byte by byte, upwards", b.x.memory(262140), 'a' | 'b' << 8 | 'c' << 16 | 'd' << 24);
    b = traps(1, "char *p = (char *)262140; memset(p, 1, 5);");
    Bench.due("up to the memory's end", b.x.memory(262140), 0x01010101);
    b = traps(1, "char *p = (char *)262140; memmove(p, \"abcdef\", 6);");
    Bench.due("downwards: nothing is stored", b.x.memory(262140), 0);
    b = traps(1, "char *p = (char *)262140; memcpy(p, \"abcdef\", 6);");
    Bench.due("upwards", b.x.memory(262140), 'a' | 'b' << 8 | 'c' << 16 | 'd' << 24);
    traps(1, "char a[9]; memcpy(a, (void *)262143, 2);");
    traps(1, "char a[9]; strcpy(a, (char *)1023);");
    traps(1, "char a[9]; memset((void *)1023, 0, 1);");
    run("", "memset((void *)1024, 0, 1); memset((void *)262143, 0, 1);");
    traps(1, "char *p = (char *)262141; strcpy(p, \"ab\"); strcpy(p, \"abc\");");
    traps(1, "char *p = (char *)262140; strncpy(p, \"a\", 5);");
    traps(1, "char a[9] = \"ab\"; strcat(a, a);");
  }

  /** "int strcmp, strncmp (bytes without sign; -1, 0, 1) .. int memcmp" */
  private static void comparing() {
    holds("strcmp(\"\", \"\") == 0 && strcmp(\"a\", \"a\") == 0 && strcmp(\"a\", \"b\") == -1 && strcmp(\"c\", \"a\") == 1 && strcmp(\"a\", \"ab\") == -1 && strcmp(\"ab\", \"a\") == 1 && strcmp(\"\\x80\", \"a\") == 1 && strcmp(\"\\xff\", \"\\x01\") == 1 && strcmp(\"\", \"\\xff\") == -1");
    holds("strncmp(\"abc\", \"abd\", 2) == 0 && strncmp(\"abc\", \"abd\", 3) == -1 && strncmp(\"abc\", \"abd\", 0) == 0 && strncmp(\"a\", \"a\", 99) == 0 && strncmp(\"a\\0b\", \"a\\0c\", 3) == 0 && strncmp(\"\\x80\", \"a\", 1) == 1 && strncmp(\"b\", \"a\", -1) == 1");
    holds("memcmp(\"a\\0b\", \"a\\0c\", 3) == -1 && memcmp(\"a\\0b\", \"a\\0c\", 2) == 0 && memcmp(\"\\x80\", \"\\x7f\", 1) == 1 && memcmp(\"b\", \"a\", 0) == 0");
    traps(1, "strcmp(\"a\", 0);");
    traps(1, "strncmp(0, \"a\", 1);");
    run("", "memset((void *)262142, 'a', 2); strncmp((char *)262142, \"aab\", 2); strncmp((char *)262142, \"ab\", 9); memcmp((char *)262142, \"aa\", 2);");
    traps(1, "memset((void *)262142, 'a', 2); strncmp((char *)262142, \"aab\", 3);");
    traps(1, "memset((void *)262142, 'a', 2); memcmp((char *)262142, \"aab\", 3);");
  }

  /** "strchr finds the 0 too"; "strstr reads its second text first" */
  private static void searching() {
    wrote("", "char *s = \"hello\"; printf(\"%d %d %d %d %d %d\", strchr(s, 'l') - s, strrchr(s, 'l') - s, strchr(s, 0) - s, strrchr(s, 0) - s, strchr(s, 'x') == 0, strrchr(s, 'x') == 0);", "2 3 5 5 1 1");
    wrote("", "char *s = \"hel\\xfflo\"; printf(\"%d %d %d %d\", strchr(s, 256 + 'l') - s, strchr(s, -1) - s, strrchr(s, 255) - s, (char *)memchr(s, -1, 6) - s);", "2 3 3 3");
    wrote("", "char *s = \"abab\\0ab\"; printf(\"%d %d %d %d\", (char *)memchr(s, 'b', 4) - s, (char *)memchr(s, 0, 8) - s, memchr(s, 'b', 1) == 0, memchr(s, 'a', 0) == 0);", "1 4 1 1");
    wrote("", "char *s = \"ababc\"; printf(\"%d %d %d %d %d %d\", strstr(s, \"abc\") - s, strstr(s, \"\") - s, strstr(s, \"ababc\") - s, strstr(s, \"ababcd\") == 0, strstr(s, \"x\") == 0, strstr(s, \"c\") - s);", "2 0 0 1 1 4");
    wrote("", "char *s = \"\"; printf(\"%d %d\", strstr(s, \"\") == s, strstr(s, \"a\") == 0);", "1 1");
    traps(1, "strchr(0, 'a');");
    traps(1, "strrchr((char *)1023, 'a');");
    traps(1, "strstr(\"a\", 0);");
    traps(1, "strlen((char *)262144);");
    traps(1, "memset((void *)262142, 'a', 2); strlen((char *)262142);");
    traps(1, "memset((void *)262142, 'a', 2); strchr((char *)262142, 'b');");
    run("", "memset((void *)262142, 'a', 2); strchr((char *)262142, 'a'); memchr((char *)262142, 'b', 2); memchr((char *)262142, 'a', 99);");
    traps(1, "memset((void *)262142, 'a', 2); memchr((char *)262142, 'b', 3);");
  }

  /** "int printf, fprintf, sprintf (a 0 behind): the number of bytes"; "sprintf stores each byte when it is made" */
  private static void numbersOfBytes() {
    wrote("", "char b[20] = \"xxxxxxxxx\"; int n = sprintf(b, \"\"); printf(\"%d%d%c \", n, b[0], b[1]); n = sprintf(b, \"a%cb\", 0); printf(\"%d%d%d%d\", n, b[1], b[2], b[3]);", "00x 30980");
    wrote("", "char b[9] = \"abc\"; sprintf(b, \"%s%s\", \"x\", b); puts(b);", sprintfOverItself() + "\n");
    Bench b = traps(1, "sprintf((char *)262142, \"abc\");");
    Bench.due("what fits is stored", b.x.memory(262142), 'a' | 'b' << 8);
    b = traps(1, "sprintf((char *)262142, \"ab\");");
    Bench.due("no place for the 0", b.x.memory(262142), 'a' | 'b' << 8);
    run("", "sprintf((char *)262142, \"a\");");
    traps(1, "sprintf(0, \"\");");
    b = traps(1, "sprintf(0, \"abc\");");
    Bench.due("nothing is written", b.x.written(2) + b.x.written(3), 0);
    // "The places of what stands behind the ... of a call are made ahead of what the function looks at, so also ahead of trap 1 of a stream: lowest() has them."
    for (String call : new String[] {"printf(0, 1, 2)", "fprintf((FILE *)9, \"\", 1, 2)", "fprintf(stdin, \"\", 1, 2)", "fprintf(stdout, 0, 1, 2)", "sprintf(0, \"\", 1, 2)", "scanf(0, 1, 2)", "sscanf(0, \"%d\", 1, 2)"}) {
      b = traps(1, call + ";");
      Bench.due("lowest in " + call, b.x.lowest(), 262144 - 16);
      Bench.due("the places in " + call, b.x.memory(262128) * 16 + b.x.memory(262136), 18);
    }
    // "put into places as 8 tells for the time of the call"
    b = run("", "printf(\"%d\", 1); printf(\"%d\", 2); fprintf(stderr, \"%d\", 3); sscanf(\"4\", \"%*d\", 4);");
    Bench.due("each call has its places where those before it had them", b.x.lowest(), 262136);
    Bench.due("what stands there", b.x.memory(262136), 4);
    Bench.due("stdout", b.wrote(2), "12");
    b = run("", "fprintf(stderr, \"a\"); printf(\"b\"); fputs(\"c\", stderr); puts(\"d\"); putchar('e'); fprintf(stdout, \"f\"); fprintf(stderr, \"g\"); printf(\"h\");");
    Bench.due("stdout", b.wrote(2), "bd\nefh");
    Bench.due("stderr", b.wrote(3), "acg");
    b = new Bench().source("int f(int n) { int k = n; return k + 1; } int main(void) { printf(\"%d\", 1); f(6); f(printf(\"%d\", 2)); return 3; }").runs("calls behind it", 99, 0, 0);
    Bench.due("the frame begins where it would without it", b.x.memory(262136) * 16 + b.x.memory(262140), 17);
    Bench.due("lowest", b.x.lowest(), 262136);
    b = traps(5, "char b[9]; sprintf((char *)262140, \"ab%q\");");
    Bench.due("stored before the trap", b.x.memory(262140), 'a' | 'b' << 8);
  }

  /** Of s the length is looked at first, then it is read and stored byte by byte as the bytes are then. */
  private static String sprintfOverItself() {
    char[] b = {'a', 'b', 'c', 0, 0, 0, 0, 0, 0};
    b[0] = 'x';
    int length = 3;
    for (int i = 0; i < length; i++) {
      b[1 + i] = b[i];
    }
    return new String(b, 0, 4);
  }

  /** "width (digits or * ..), perhaps . and precision (digits or none: 0, or *: below 0 as none told)"; "at least precision digits (0 with precision 0: none)"; "%5% is trap 5" */
  private static void widthsAndPrecisions() {
    wrote("", "printf(\"%0d|%1d|%2d|%3d|%-3d|%*d|%*d|%*d|\", 12, 12, 12, 12, 12, 0, 12, 3, 12, -3, 12);", "12|12|12| 12|12 |12| 12|12 |");
    wrote("", "printf(\"%.d|%.0d|%.1d|%.2d|%.3d|%.d|%.0d|%.1d|\", 12, 12, 12, 12, 12, 0, 0, 0);", "12|12|12|12|012|||0|");
    wrote("", "printf(\"%.*d|%.*d|%.*d|%.*d|\", -1, 0, 0, 0, 1, 0, -2147483647 - 1, 0);", "0||0|0|");
    wrote("", "printf(\"%5.3d|%-5.3d|%05.3d|%05d|%-05d|%+05d|% 05d|%+.3d|%05.0d|\", 7, 7, 7, 7, 7, 7, 7, 7, 0);", "  007|007  |  007|00007|7    |+0007| 0007|+007|     |");
    wrote("", "printf(\"%s|%.0s|%.1s|%.9s|%4s|%-4s|%4.1s|%.*s|%.*s\", \"ab\", \"ab\", \"ab\", \"ab\", \"ab\", \"ab\", \"ab\", 1, \"ab\", -1, \"ab\");", "ab||a|ab|  ab|ab  |   a|a|ab");
    wrote("", "printf(\"%.0s%.*s\", (char *)0, 0, (char *)1);", "");
    wrote("", "char *p = (char *)262142; p[0] = 'a'; p[1] = 'b'; printf(\"%.2s\", p);", "ab");
    traps(1, "char *p = (char *)262142; p[0] = 'a'; p[1] = 'b'; printf(\"%.3s\", p);");
    traps(1, "printf(\"%.1s\", (char *)0);");
    wrote("", "printf(\"%#x|%#x|%#X|%#o|%#o|%#.0x|%#.0o|%#.2o|%#.3x|%#5x|%#05x|%#-5x|\", 0, 10, 10, 0, 8, 0, 0, 8, 10, 10, 10, 10);", "0|0xa|0XA|0|010||0|010|0x00a|  0xa|0x00a|0xa  |");
    wrote("", "printf(\"%p|%11p|%-11p|%011p|%#p|%.1p|%.*p\", 0, 0, 0, 0, 0, 0, 3, 0);", "0x00000000| 0x00000000|0x00000000 |0x000000000|0x00000000|0x00000000|0x00000000");
    wrote("", "printf(\"%3c|%-3c|%03c|%.5c|%c|\", 'a', 'b', 'c', 'd', 256 + 'e');", "  a|b  |  c|d|e|");
    wrote("", "printf(\"%hhd %hhd %hhd %hhu %hd %hd %hu %hhx %hho\", 127, 128, 255, 256, 32767, 32768, 65536, 511, 256);", "127 -128 -1 0 32767 -32768 0 ff 0");
    wrote("", "printf(\"%+d|% d|%+ d|% +d|%+u|% u|%+x|% o|%+c|% s|%+p|\", 1, 1, 1, 1, 1, 1, 1, 1, 'c', \"s\", 0);", "+1| 1|+1|+1|1|1|1|1|c|s|0x00000000|");
    wrote("", "printf(\"%+d|% d|%+f|% f|%+.0e|% .0E|%+i\", 0, 0, 0.0, 0.0, 0.0, 0.0, -1);", "+0| 0|+0.000000| 0.000000|+0e+00| 0E+00|-1");
    wrote("", "printf(\"%%|%%%%|%d%%\", 1);", "%|%%|1%");
    for (String bad : new String[] {"%5%", "%-%", "%.%", "%l%", "%0%", "%", "%5", "%.", "%-", "%l", "%h", "%.5", "%*", "%q", "%S", "%C", "%D", "%U", "%i%", "%n", "%a", "%g", "%G", "%L", "%Lf", "%j", "%z", "%td", "%lld%", "%hhhd", "%llld", "%hld", "%lhd", "%5-d", "%.-1d", "%+.+d", "%5 d", "%..d", "%5.5.5d", "%**d",
        "%.**d", "%1$d", "%'d", "% %", "%\\x80", "%\\n"}) {
      traps(5, "printf(\"" + bad + "\", 1, 2, 3);");
    }
    Bench b = traps(5, "printf(\"ab%d%q\", 1);");
    Bench.due("what was written before stays", b.wrote(2), "ab1");
  }

  /** "f: a double x, 6 decimals without precision (at most 15, else trap 5)"; "An argument of printf is read (and may be trap 6) before what is wrong in its % (trap 5) is found." */
  private static void decimals() {
    wrote("", "printf(\"%f|%.0f|%.1f|%.15f|%.*f|%.*f|%.f|%#.0f|%#.f\", 0.5, 0.5, 0.5, 0.5, 15, 0.5, -1, 0.5, 1.5, 1.0, 2.0);", "0.500000|0|0.5|0.500000000000000|0.500000000000000|0.500000|2|1.|2.");
    wrote("", "printf(\"%e|%.0e|%.1e|%.15e|%#.0e|%.0E\", 0.5, 0.5, 0.5, 0.5, 0.5, 2.5);", "5.000000e-01|5e-01|5.0e-01|5.000000000000000e-01|5.e-01|2E+00");
    for (String bad : new String[] {"\"%.16f\", 1.0", "\"%.16e\", 1.0", "\"%.16F\", 1.0", "\"%.16E\", 1.0", "\"%.*f\", 16, 1.0", "\"%.99999999999f\", 1.0", "\"%.16f\", 1e308 * 10"}) {
      traps(5, "printf(" + bad + ");");
    }
    String nan = "union { long long i; double d; } u = { -1 }; ";
    traps(6, nan + "printf(\"%f\", u.i);");
    traps(6, nan + "printf(\"%.16f\", u.i);");
    traps(6, nan + "printf(\"%e\", u.i);");
    traps(6, "printf(\"%f\", 0x7ff0000000000001ll);");
    wrote("", "printf(\"%f %f\", 0x7ff0000000000000ll, 0x8000000000000000ll);", "inf -0.000000");
    wrote("", "double i = 1e308 * 10; printf(\"%f|%e|%5f|%-5f|%05f|%+f|% f|%.0f|%#f|%f\", i, i, i, i, i, i, i, i, i, -i);", "inf|inf|  inf|inf  |  inf|+inf| inf|inf|inf|-inf");
    wrote("", "printf(\"%f|%.0f|%e|%+f|%6.1f|%06.1f\", -0.0, -0.25, -0.0, -0.0, -0.0, -0.0);", "-0.000000|-0|-0.000000e+00|-0.000000|  -0.0|-000.0");
    wrote("", "printf(\"%.0f %.0f %.0f %.0f %.1f %.1f %.2f\", 0.5, 1.5, 2.5, 3.5, 0.25, 0.35, 0.125);", "0 2 2 4 0.2 0.3 0.12");
    wrote("", "printf(\"%.0e %.0e %.0e %.1e %.0e\", 2.5, 3.5, 9.5, 1.25, 0.00095);", "2e+00 4e+00 1e+01 1.2e+00 " + scientific(0.00095));
    wrote("", "printf(\"%e %e %e %e\", 9.9999995e9, 1e99, 1e100, 1e-100);", sixDecimals(9.9999995e9) + " 1.000000e+99 " + sixDecimals(1e100) + " " + sixDecimals(worth100()));
    wrote("", "printf(\"%e %e %e %e %.0e %.0e %.0e %.1e\", 1e9, 1e10, 1e-9, 1e-10, 9.6e8, 9.6e9, 9.4e8, 9.96e98);", "1.000000e+09 1.000000e+10 1.000000e-09 1.000000e-10 1e+09 1e+10 9e+08 1.0e+99");
    wrote("", "printf(\"%.0e|%.0e|%.0e|%.0E\", 9.6e98, 9.6e99, 3e-99, 3e-100);", "1e+99|1e+100|3e-99|3E-100");
    wrote("", "float f = 0.1f; printf(\"%.15f\", f);", "0.100000001490116");
    wrote("", "printf(\"%e %e %.0e\", 1e299, 1e-299, 3e200);", "1.000000e+299 1.000000e-299 3e+200");
    // "one that is not there reads what lies there"
    new Bench().source("int main(void) { printf(\"%f\"); return 0; }").runs("a double that is not there", 99, 1, 1);
    new Bench().source("int main(void) { int a; printf(\"%f\"); return 0; }").runs("with a frame of 8", 99, 0, 0);
    new Bench().source("int main(void) { printf(\"%d\"); return 0; }").runs("an int that is not there", 99, 1, 1);
    new Bench().source("int main(void) { printf(\"%lld\"); return 0; }").runs("a long long that is not there", 99, 1, 1);
    new Bench().source("int main(void) { printf(\"%s\"); return 0; }").runs("a text that is not there", 99, 1, 1);
    new Bench().source("int main(void) { printf(\"%*d\", 1); return 0; }").runs("an amount, and no number", 99, 1, 1);
  }

  /** 1 divided by 10 a hundred times, as section 3 tells of 1e-100. */
  private static double worth100() {
    double x = 1;
    for (int i = 0; i < 100; i++) {
      x /= 10;
    }
    return x;
  }

  private static String sixDecimals(double x) {
    return rounded(x, 6);
  }

  private static String scientific(double x) {
    return rounded(x, 0);
  }

  private static String rounded(double x, int decimals) {
    java.math.BigDecimal exact = new java.math.BigDecimal(x).round(new java.math.MathContext(decimals + 1, java.math.RoundingMode.HALF_EVEN));
    String digits = exact.unscaledValue().toString();
    int exponent = digits.length() - 1 - exact.scale();
    digits = (digits + "0".repeat(decimals + 1)).substring(0, decimals + 1);
    String size = Math.abs(exponent) < 10 ? "0" + Math.abs(exponent) : "" + Math.abs(exponent);
    return digits.charAt(0) + (decimals > 0 ? "." + digits.substring(1) : "") + "e" + (exponent < 0 ? "-" : "+") + size;
  }

  /** "d u x skip blanks, then perhaps a sign, then digits (x: perhaps 0x first), as many as fit, at least one; the value wraps"; "a width 0 is none"; "x: an x or X right behind a first 0 (within the width) is taken too" */
  private static void scanningWidths() {
    String d = "int a = 77, n = scanf(\"%@\", &a); printf(\"%d %d\", n, a); int c; putchar('|'); while ((c = getchar()) != -1) putchar(c);";
    String[][] rows = {{"d", "123", "1 123|"}, {"1d", "123", "1 1|23"}, {"2d", "123", "1 12|3"}, {"3d", "123", "1 123|"}, {"0d", "123", "1 123|"}, {"d", "-12x", "1 -12|x"}, {"1d", "-12", "0 77|12"}, {"2d", "-12", "1 -1|2"}, {"d", "+-1", "0 77|-1"}, {"d", "+", "0 77|"}, {"d", "- 1", "0 77| 1"}, {"d", " \t\n\013\f\r9", "1 9|"},
        {"d", "x", "0 77|x"}, {"d", "0x10", "1 0|x10"}, {"d", "4294967297", "1 1|"}, {"d", "2147483648", "1 -2147483648|"}, {"d", "18446744073709551617", "1 1|"}, {"u", "-1", "1 -1|"}, {"u", "4294967295", "1 -1|"}, {"x", "ff", "1 255|"}, {"x", "0xff", "1 255|"}, {"x", "0Xfg", "1 15|g"}, {"x", "0x", "1 0|"}, {"x", "0xg", "1 0|g"},
        {"x", "00x1", "1 0|x1"}, {"x", "x1", "0 77|x1"}, {"x", "-0x10", "1 -16|"}, {"1x", "0x1", "1 0|x1"}, {"2x", "0x1", "1 0|1"}, {"3x", "0x12", "1 1|2"}, {"x", "1x1", "1 1|x1"}, {"x", "g", "0 77|g"}, {"x", "0x0x1", "1 0|x1"}, {"x", "0xx1", "1 0|x1"}, {"x", "0XX1", "1 0|X1"}, {"3x", "-0x1", "1 0|1"}, {"2x", "-0x1", "1 0|x1"}, {"000000000000000000000002d", "123", "1 12|3"},
        {"99999999999999999999d", "123", "1 123|"}, {"hd", "65537", "1 1|"}, {"hhd", "257", "1 1|"}, {"ld", "5", "1 5|"}, {"hhu", "300", "1 44|"}};
    for (String[] row : rows) {
      String statements = d.replace("@", row[0]);
      wrote(row[1], row[0].startsWith("h") ? statements.replace("int a = 77", "int a = 0") : statements, row[2]);
      wrote("", "int a = 77; char *t = \"" + row[1].replace("\t", "\\t").replace("\n", "\\n").replace("\013", "\\v").replace("\f", "\\f").replace("\r", "\\r") + "\"; int n = sscanf(t, \"%" + row[0] + "\", " + (row[0].startsWith("h") ? "(a = 0, &a)" : "&a") + "); printf(\"%d %d|\", n, a);", row[2].substring(0, row[2].indexOf('|') + 1));
    }
    wrote("12345", "short s[2] = { 9, 9 }; char c[2] = { 9, 9 }; scanf(\"%2hd%1hhd\", s, c); printf(\"%d %d %d %d\", s[0], s[1], c[0], c[1]);", "12 9 3 9");
    wrote("18446744073709551615 -5", "long long a; unsigned long long b; scanf(\"%lld%llu\", &a, &b); printf(\"%lld %llu\", a, b);", "-1 18446744073709551611");
    wrote("ab cd", "char s[9] = \"xxxxxxxx\"; int n = scanf(\"%1s\", s); printf(\"%d%s%c\", n, s, s[2]); n = scanf(\"%9s\", s); printf(\"%d%s\", n, s); n = scanf(\"%0s\", s); printf(\"%d%s\", n, s);", "1ax1b1cd");
    wrote("ab cd", "char s[9] = \"xxxxxxxx\"; int n = scanf(\"%c\", s); printf(\"%d%s \", n, s); n = scanf(\"%0c\", s); printf(\"%d%s \", n, s); n = scanf(\"%3c\", s); printf(\"%d%s\", n, s);", "1axxxxxxx 1bxxxxxxx 1 cdxxxxx");
  }

  /** "-1 only if nothing was stored and the input had ended where the conversion that fails, or another byte that must come, began, blanks skipped"; "c with too few bytes fails, those read are stored" */
  private static void scanningEnds() {
    Object[][] rows = {{"", "%d", -1}, {" \n", "%d", -1}, {"x", "%d", 0}, {"-", "%d", 0}, {"", "%s", -1}, {"  ", "%s", -1}, {"", "%c", -1}, {" ", "%c", 1}, {"a", "%2c", 0}, {"", "%2c", -1}, {"", "x", -1}, {"y", "x", 0}, {" ", "x", 0}, {"", " x", -1}, {" ", " x", -1}, {"x", "x", 0}, {"x", "x%d", -1}, {"x ", "x%d", -1}, {"xy", "x%d", 0},
        {"", "", 0}, {"", " ", 0}, {"5", "%d%d", 1}, {"5", "%dx", 1}, {"5y", "%dx", 1}, {"5 x", "%d%d", 1}, {"5", "%*d", 0}, {"5", "%*d%d", -1}, {"5 6", "%*d%d", 1}, {"5 y", "%*d%d", 0}, {"", "%*d", -1}, {"x", "%*d", 0}, {"5", "%d ", 1}, {"5", "%d %d", 1}, {"a b c", "%s%s%s", 3}, {"ab", "%*c%c%c", 1}, {"ab", "%*c%*c%c", -1}};
    for (Object[] row : rows) {
      wrote((String) row[0], "char s[30]; int n = scanf(\"" + row[1] + "\", s, s + 10, s + 20); printf(\"%d\", n);", "" + row[2]);
      wrote("", "char s[30]; int n = sscanf(\"" + ((String) row[0]).replace("\n", "\\n") + "\", \"" + row[1] + "\", s, s + 10, s + 20); printf(\"%d\", n);", "" + row[2]);
    }
    wrote("ab", "char s[9] = \"xxxx\"; int n = scanf(\"%3c\", s); printf(\"%d%s%d\", n, s, getchar());", "0abxx-1");
    for (String bad : new String[] {"%", "%%", "%5%", "%i", "%n", "%f", "%o", "%X", "%p", "%[a]", "%q", "%*", "%5", "%h", "%-d", "%.1d", "%+d", "% d", "%**d", "%5*d", "%D", "%lf", "%ll", "%*%"}) {
      traps(5, "int a[9]; scanf(\"" + bad + "\", a);");
      traps(5, "int a[9]; sscanf(\"1 2\", \"" + bad + "\", a);");
    }
    // A byte 0 of the input is a byte.
    wrote("\0", "printf(\"%d\", scanf(\"x\"));", "0");
    wrote("\0", "int n; printf(\"%d\", scanf(\"%d\", &n));", "0");
    wrote("\0x", "char s[9] = \"abc\"; printf(\"%d%d%c%d\", scanf(\"%s\", s), s[0], s[1], s[2]);", "10x0");
    // It stops at the first that fails.
    wrote("x5", "int n = 7; char c = 'q'; printf(\"%d%d%c%c\", scanf(\"%d%c\", &n, &c), n, c, getchar());", "07qx");
    wrote("y5", "int n = 7; printf(\"%d%d%c\", scanf(\"x%d\", &n), n, getchar());", "07y");
    wrote("ab cd", "char s[9]; printf(\"%d%s\", scanf(\"%*s%s\", s), s);", "1cd");
    wrote("abcd", "char s[9] = \"xxxxxxx\"; printf(\"%d%s\", scanf(\"%*2c%c\", s), s);", "1cxxxxxx");
    wrote("12 34", "int n; printf(\"%d%d\", scanf(\"%*d%d\", &n), n);", "134");
    wrote("%5", "int a; int n = scanf(\"%d\", &a); printf(\"%d%c\", n, getchar());", "0%");
  }

  /** "the place of a conversion (without *) is read (as memory: trap 1) when it begins, blanks skipped, if the input has not ended there, before its bytes" */
  private static void scanningPlaces() {
    new Bench().input("x").source("int main(void) { scanf(\"%d\"); return 3; }").runs("a place that is not there", 99, 1, 1);
    new Bench().input(" ").source("int main(void) { scanf(\"%d\"); return 3; }").runs("the input has ended", 99, 0, 0);
    new Bench().input("5").source("int main(void) { scanf(\"%*d\"); return 3; }").runs("with *", 99, 0, 0);
    new Bench().input("5").source("int main(void) { scanf(\"%d\", 0); return 3; }").runs("a place in no memory", 99, 1, 1);
    new Bench().input("x").source("int main(void) { return scanf(\"%d\", 0); }").runs("no digits: nothing is stored", 99, 0, 0);
    new Bench().input("x").source("int main(void) { scanf(\"%c\", 0); return 3; }").runs("a byte", 99, 1, 1);
    new Bench().input("5").source("int main(void) { scanf(\"%d\", (int *)262141); return 3; }").runs("an int beyond the memory", 99, 1, 1);
    new Bench().input("5").source("int main(void) { scanf(\"%hhd\", (char *)262143); scanf(\"%d\", (int *)262140); return 3; }").runs("the last byte", 99, 0, 0);
    Bench b = new Bench().input("abcdef").source("int main(void) { scanf(\"%s\", (char *)262141); return 3; }").runs("a text beyond the memory", 99, 1, 1);
    Bench.due("what fits is stored", b.x.memory(262141), 'a' | 'b' << 8 | 'c' << 16);
    new Bench().input("ab").source("int main(void) { scanf(\"%s\", (char *)262141); return 3; }").runs("just fits", 99, 0, 0);
    new Bench().input("abc").source("int main(void) { scanf(\"%s\", (char *)262141); return 3; }").runs("no place for the 0", 99, 1, 1);
    new Bench().source("int main(void) { sscanf((char *)0, \"%d\", 0); return 3; }").runs("a text in no memory", 99, 1, 1);
    new Bench().source("int main(void) { sscanf(\"1\", (char *)0); return 3; }").runs("a format in no memory", 99, 1, 1);
    new Bench().source("int main(void) { return sscanf((char *)0, \"\") + 3; }").runs("nothing is read", 99, 0, 0);
    wrote("7", "int a[3] = { 1, 2, 3 }; scanf(\"%d\", a + 1); printf(\"%d%d%d\", a[0], a[1], a[2]);", "173");
  }

  /** "Library names .. mean functions that can only be called, the ( right behind the identifier; a file-scope declaration or definition of the same name takes its place" */
  private static void onlyCalled() {
    String all = "putchar putc fputc puts fputs getchar getc fgetc fgets ungetc printf fprintf sprintf scanf sscanf strlen strcpy strncpy strcat strncat strcmp strncmp strchr strrchr strstr memcpy memmove memset memcmp memchr isdigit isalpha isalnum isspace isupper islower isxdigit isprint"
        + " ispunct toupper tolower abs labs llabs atoi atol atoll strtol fabs sqrt floor ceil exit abort atexit qsort srand rand malloc calloc realloc free va_start va_end";
    for (String name : all.split(" ")) {
      Bench.faults("int main(void) {\n" + name + "; return 0; }", 4, 2);
      Bench.faults("int main(void) {\n&" + name + "; return 0; }", 4, 2);
      Bench.faults("int main(void) {\nvoid *p = " + name + "; return 0; }", 4, 2);
      Bench.faults("int main(void) {\n(" + name + ")(1); return 0; }", 4, 2);
      Bench.faults("int main(void) {\nsizeof " + name + "; return 0; }", 4, 2);
      Bench.exits("int " + name + " = 3; int main(void) { return " + name + "; }", 3);
      Bench.exits("int " + name + "(int a, int b, int c, int d, int e) { return a; } int main(void) { return (" + name + ")(3, 0, 0, 0, 0); }", 3);
      Bench.exits("int main(void) { int " + name + " = 3; return " + name + "; }", 3);
      Bench.exits("struct " + name + " { int " + name + "; } x = { 3 }; int main(void) { return x." + name + "; }", 3);
    }
    for (String name : "gets strdup strcspn isblank iscntrl sin pow div bsearch fopen remove feof assert setjmp time snprintf vprintf perror fflush".split(" ")) {
      Bench.faults("int main(void) {\n" + name + "(1); return 0; }", 4, 2);
    }
    Bench.exits("int f(void) { return abs(-3); } int abs(int n) { return n * 2; } int main(void) { return f() * 16 + abs(4); }", 56);
    Bench.faults("int abs(int n);\nint main(void) { return abs(-3); }\n", 4, 2);
    Bench.exits("extern int abs; int main(void) { return abs; } int abs = 3;", 3);
  }

  /** The run ends with trap 1 here; what it wrote is this, and from 1024 on the memory is as at its beginning. */
  private static void nothingElse(String input, String call, String wrote) {
    String source = "int a[2] = { 0x01020304, 0x05060708 }; struct s { int x, y; }; struct t { int b : 3; };\nint f(const void *p, const void *q) { return 1; }\nint main(void) {\n" + call + "\nputs(\"more\"); }";
    Bench b = new Bench().input(input).source(source).runs(call, 1000, 1, 4);
    Bench.due("memory below what " + call + " writes", b.x.memory(1020), 0);
    Bench.due("memory at 1024 behind " + call, b.x.memory(1024), 0x01020304);
    Bench.due("memory at 1028 behind " + call, b.x.memory(1028), 0x05060708);
    Bench.due("heapEnd behind " + call, b.x.heapEnd() % 16, 0);
    Bench.due("stdout behind " + call, b.wrote(2), wrote);
  }

  /** "addresses are read and written byte by byte, upwards, with trap 1"; "1 .. 8 the traps": behind one nothing is done any more */
  private static void behindATrap() {
    String[] first = {"fgets(@, 2, stdin);", "fgets(@, 3, stdin);", "fgets(@, 9, stdin);", "strcpy(@, \"xyz\");", "strcpy(@, \"\");", "strncpy(@, \"xyz\", 3);", "strncpy(@, \"x\", 9);", "strncpy(@, \"\", 2);", "strcat(@, \"xyz\");", "strcat(@, \"\");", "strncat(@, \"xyz\", 2);", "strncat(@, \"xyz\", 0);",
        "memcpy(@, \"xyz\", 3);", "memmove(@, \"xyz\", 3);", "memset(@, 7, 9);", "sprintf(@, \"xyz\");", "sprintf(@, \"\");", "sprintf(@, \"%5d\", 12);", "sprintf(@, \"%s\", \"xyz\");", "sprintf(@, \"%e\", 1.5);", "scanf(\"%s\", @);", "scanf(\"%9s\", @);", "scanf(\"%c\", @);", "scanf(\"%4c\", @);", "sscanf(\"xyz\", \"%s\", @);",
        "sscanf(\"xyz\", \"%c%c\", @, a);", "sscanf(\"77\", \"%d\", @);", "sscanf(\"77\", \"%hd\", @);", "sscanf(\"77\", \"%hhd\", @);", "sscanf(\"77\", \"%lld\", @);", "sscanf(\"77\", \"%1x%1x\", @, a);", "strtol(\"77\", (char **)@, 10);", "strtol(\"77\", (char **)@, 99);", "strtol(\"\", (char **)@, 10);", "qsort(@, 2, 1, f);", "qsort(@, 9, 9, f);",
        "free(@);", "realloc(@, 9);", "realloc(@, 0);", "*@ = 7;", "*(int *)@ = 7;", "*(long long *)@ += 7;", "++*(short *)@;", "((struct t *)@)->b = 1;", "*(struct s *)@ = *(struct s *)a;", "*(struct s *)a = *(struct s *)@;", "puts(@);", "fputs(@, stdout);", "printf(@);", "printf(\"%s\", @);", "printf(\"%9s\", @);", "memcpy(a, @, 8);", "memmove((void *)1020, @, 8);", "strcpy((char *)a, @);",
        "strncpy((char *)a, @, 8);", "*a = *@;"};
    for (String call : first) {
      nothingElse("hij\nk", call.replace("@", "((char *)1023)"), "");
      if (!call.startsWith("strtol") && !call.startsWith("free") && !call.startsWith("realloc")) {
        nothingElse("hij\nk", call.replace("@", "((char *)0)"), "");
      }
      nothingElse("hij\nk", call.replace("@", "((char *)262144)"), "");
      nothingElse("hij\nk", call.replace("@", "((char *)-1)"), "");
    }
    nothingElse("", "memmove((char *)262142, \"xyz\", 3);", "");
    nothingElse("", "*(int *)262141 = 7;", "");
    nothingElse("7", "scanf(\"%d\", (int *)262141);", "");
    nothingElse("7", "scanf(\"%lld\", (int *)262137);", "");
    nothingElse("", "strtol(\"7\", (char **)262141, 10);", "");
    nothingElse("", "printf(\"ab%s\", 1);", "ab");
    nothingElse("", "printf(\"ab%9scd\", 1);", "ab");
    nothingElse("", "printf(\"%d%.3scd\", 5, 1);", "5");
    nothingElse("", "puts((char *)1025 - 2);", "");
    // What comes ahead of the trap stays, with nothing behind it.
    String[][] last = {{"fgets((char *)262142, 9, stdin);", "hi"}, {"fgets((char *)262142, 4, stdin);", "hi"}, {"strcpy((char *)262142, \"hijk\");", "hi"}, {"strcpy((char *)262142, \"hi\");", "hi"}, {"strncpy((char *)262142, \"hijk\", 4);", "hi"}, {"strncpy((char *)262142, \"h\", 4);", "h\0"}, {"memcpy((char *)262142, \"hijk\", 4);", "hi"},
        {"memset((char *)262142, 'h', 3);", "hh"}, {"sprintf((char *)262142, \"hijk\");", "hi"}, {"sprintf((char *)262142, \"%s\", \"hi\");", "hi"}, {"sprintf((char *)262142, \"h%c\", 'i');", "hi"}, {"scanf(\"%s\", (char *)262142);", "hi"}, {"scanf(\"%4c\", (char *)262142);", "hi"}, {"sscanf(\"hi\", \"%s\", (char *)262142);", "hi"},
        {"sprintf((char *)262142, \"%c%d\", 'h', 55);", "h5"}};
    for (String[] row : last) {
      Bench b = new Bench().input("hijk").source("int main(void) {\n" + row[0] + " }").runs(row[0], 1000, 1, 2);
      Bench.due("what " + row[0] + " stores", b.x.memory(262142), row[1].charAt(0) | row[1].charAt(1) << 8);
    }
    // strcat finds the end of its first text first.
    Bench b = new Bench().source("int main(void) {\n*(char *)262142 = 'x'; strcat((char *)262142, \"yz\"); }").runs("strcat", 1000, 1, 2);
    Bench.due("what strcat stores", b.x.memory(262140), 'x' << 16 | 'y' << 24);
    // Behind trap 5 of a conversion too.
    b = new Bench().source("char s[9] = \"abcdefgh\";\nint main(void) {\nsprintf(s, \"12%q\"); }").runs("sprintf with %q", 1000, 5, 3);
    Bench.due("no 0 behind", b.x.memory(1024), '1' | '2' << 8 | 'c' << 16 | 'd' << 24);
    b = new Bench().source("char s[9] = \"abcdefgh\";\nint main(void) {\nsscanf(\"12\", \"%1c%q\", s); }").runs("sscanf with %q", 1000, 5, 3);
    Bench.due("no more than a byte", b.x.memory(1024), '1' | 'b' << 8 | 'c' << 16 | 'd' << 24);
  }

  /** "in cutting that of the rest first"; where it has no place nothing else is done */
  private static void headersWithoutRoom() {
    for (String call : new String[] {"malloc(240000)", "malloc(300000)", "malloc(262144 - 31040)", "calloc(1, 240000)", "calloc(240000, 1)", "calloc(3, 80000)", "realloc(q, 240000)", "realloc(0, 240000)"}) {
      for (String size : new String[] {"0x7ffffff0", "-8", "400000"}) {
        String source = "char big[30000];\nint main(void) {\nint *p = malloc(8), *q = malloc(8);\nq[0] = 5; *p = 9; p[1] = 7; p[-2] = 8; p[-1] = 0;\np[2] = " + size + "; p[3] = " + (call.contains("q") ? "1" : "0") + ";\n" + (call.contains("q") ? "p[-2] = " + size + ";" : "") + call + ";\n}";
        Bench b = new Bench().source(source).runs(call, 1000, 1, 6);
        Bench.due("bytes of the free block before " + call, b.x.memory(31032), 9);
        Bench.due("its other bytes " + call, b.x.memory(31036), 7);
        Bench.due("is the one behind free " + call, b.x.memory(31044), call.contains("q") ? 1 : 0);
        Bench.due("its bytes " + call, b.x.memory(31048), 5);
        Bench.due("the heap's end " + call, b.x.heapEnd(), 31056);
      }
    }
    // The first block is free and very large: the rest's header is the last 8 bytes of the memory, and has no place.
    String free = "char big[30000];\nint main(void) {\nmalloc(8);\n*(int *)31024 = 400000; *(int *)31028 = 0;\n";
    Bench b = new Bench().source(free + "return malloc(231104) == (void *)31032;\n}").runs("a header at the memory's end", 1000, 0, 0);
    Bench.due("its block", b.x.exitCode(), 1);
    Bench.due("its size", b.x.memory(262136), 400000 - 231104 - 8);
    Bench.due("it is free", b.x.memory(262140), 0);
    b = new Bench().source(free + "malloc(231105);\n}").runs("a header behind the memory's end", 1000, 1, 5);
    Bench.due("the block's header", b.x.memory(31024), 400000);
    Bench.due("it stays free", b.x.memory(31028), 0);
    // "A header is written whole": with a place for its first half only.
    b = new Bench().source("char big[30000];\nint main(void) {\nmalloc(8);\n*(int *)31024 = 4; *(int *)31036 = 400000; *(int *)31040 = 0;\nmalloc(231096);\n}").runs("half a header", 1000, 1, 5);
    Bench.due("nothing of it", b.x.memory(262140), 0);
    Bench.due("nor of the block's", b.x.memory(31036), 400000);
  }
}
