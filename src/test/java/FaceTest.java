/** A new object, and the calls that bring texts into it and tell of compilings and runs. */
public final class FaceTest {
  public static void main(String[] args) {
    newObject();
    tray();
    taking();
    clearing();
    compiling();
    running();
    Bench.finish();
  }

  private static void newObject() {
    FlatC x = new FlatC();
    Bench.due("new faultLine", x.faultLine(), 0);
    Bench.due("new faultText", x.faultText(), -1);
    Bench.due("new run", x.run(10), -1);
    Bench.due("new run with bad fuel", x.run(-10), -1);
    Bench.due("new exitCode", x.exitCode(), -1);
    Bench.due("new trapLine", x.trapLine(), 0);
    Bench.due("new steps", x.steps(), 0);
    Bench.due("new written 2", x.written(2), 0);
    Bench.due("new written 1", x.written(1), -1);
    Bench.due("new written 4", x.written(4), -1);
    Bench.due("new out", x.out(2, 0), -1);
    Bench.due("new memory", x.memory(1024), 0);
    Bench.due("new heapEnd", x.heapEnd(), 0);
    Bench.due("new lowest", x.lowest(), 0);
    Bench.due("new strays", x.strays(), 0);
    Bench.due("new pieces", x.pieces(), 0);
    Bench.due("new about", x.about(0), -1);
    Bench.due("new tray", x.feed(1, 2, 3, 4, 5), 20);
  }

  private static void tray() {
    FlatC x = new FlatC();
    for (int i = 1; i <= 400; i++) {
      Bench.due("feed", x.feed(i, 0, 0, 0, i), 20 * i);
    }
    Bench.due("end too far", x.end(8001), -1);
    Bench.due("end below 0", x.end(-1), -1);
    Bench.due("end", x.end(7999), 7999);
    Bench.due("feed behind", x.feed(0, 0, 0, 0, 0), 8019);
    Bench.due("end 0", x.end(0), 0);
    Bench.due("take nothing", x.take(0), 0);
    FlatC full = new FlatC();
    int last = 0;
    for (int i = 0; i < 3277; i++) {
      last = full.feed(0, 0, 0, 0, 0);
    }
    Bench.due("full tray", last, 65540);
    Bench.due("fuller tray", full.feed(0, 0, 0, 0, 0), -1);
    Bench.due("take a tray that is too long", full.take(2), -1);
    Bench.due("end of a full tray", full.end(65535), 65535);
    Bench.due("take the longest", full.take(2), 65535);
  }

  private static void taking() {
    Bench b = new Bench();
    b.tray("abc");
    Bench.due("take 4", b.x.take(4), -1);
    Bench.due("take -1", b.x.take(-1), -1);
    Bench.due("the tray stays", b.x.end(3), 3);
    Bench.due("take 2", b.x.take(2), 3);
    Bench.due("the tray is empty", b.x.end(1), -1);
    for (int i = 0; i < 16; i++) {
      String text = "h" + i + "\n#define X" + i + " " + i + "\n";
      Bench.due("header", b.tray(text).x.take(1), text.length());
    }
    Bench.due("the 17th header", b.tray("h16\n").x.take(1), -1);
    Bench.due("one given again", b.tray("h3\n#define X3 33\n").x.take(1), 17);
    for (int i = 0; i < 16; i++) {
      Bench.due("argument", b.tray("arg").x.take(3), 3);
    }
    Bench.due("the 17th argument", b.tray("arg").x.take(3), -1);
    b.source("#include \"h3\"\n#include \"h15\"\nint main(int c, char **v) { return c + X3 + X15; }");
    b.runs("headers", 100, 0, 0);
    Bench.due("arguments and headers", b.x.exitCode(), 17 + 33 + 15);
    Bench.due("compile used up the headers", b.source("#include \"h3\"\n").x.compile(), 1);
    Bench.due("run used up the arguments", b.x.run(100), 0);
    Bench.due("exit code", b.x.exitCode(), 1 + 33 + 15);
    Bench.due("a header that is a name alone", b.tray("empty").x.take(1), 5);
    b.source("#include \"empty\"\nint main(void) { return 3; }").runs("empty header", 10, 0, 0);
  }

  private static void clearing() {
    Bench b = new Bench();
    b.source("int main(int c, char **v) { return c * 10 + getchar() + 1; }").runs("clear", 100, 0, 0);
    Bench.due("exit code", b.x.exitCode(), 10);
    b.header("h", "").input("A").argument("a").source("int main(void) { return 1; }").tray("rest");
    b.x.clear();
    Bench.due("tray is empty", b.x.end(1), -1);
    Bench.due("latest run stays", b.x.exitCode(), 10);
    Bench.due("program stays, arguments and input are gone", b.x.run(100), 0);
    Bench.due("exit code", b.x.exitCode(), 10);
    Bench.due("source is gone", b.x.compile(), 4);
    Bench.due("at line", b.x.faultLine(), 1);
    Bench.due("headers are gone", b.source("#include \"h\"\nint main(void) { return 1; }").x.compile(), 1);
  }

  private static void compiling() {
    Bench b = new Bench();
    b.source("int main(void) { return 7; }").runs("good", 10, 0, 0);
    b.source("int main(void) {\n return 7 }").refused("bad", 3, 2, 0);
    Bench.due("the program stays", b.x.run(10), 0);
    Bench.due("exit code", b.x.exitCode(), 7);
    b.header("a", "").header("b", "\n\nint x = ;\n");
    b.source("#include \"a\"\n#include \"b\"\nint main(void) { return 7; }").refused("in a header", 3, 3, 2);
    b.source("int main(void) { return 8; }").runs("good again", 10, 0, 0);
    Bench.due("no line", b.x.faultLine(), 0);
    Bench.due("no text", b.x.faultText(), -1);
    FlatC x = new FlatC();
    for (int i = 0; i < 64; i++) {
      Bench.due("compiling", x.compile(), 4);
    }
    Bench.due("line", x.faultLine(), 1);
    Bench.due("the 65th", x.compile(), 5);
    Bench.due("its line", x.faultLine(), 0);
    Bench.due("its text", x.faultText(), -1);
  }

  private static void running() {
    Bench b = new Bench();
    b.source("#include <stdio.h>\nint a[3] = {1, 2, 0x01020384};\n"
        + "int main(void) {\n putchar(200); fputs(\"err\", stderr); return -1; }").runs("run", 100, 0, 0);
    Bench.due("exit code", b.x.exitCode(), 255);
    Bench.due("fuel below 0", b.x.run(-1), -2);
    Bench.due("fuel above", b.x.run(100001), -2);
    Bench.due("the latest run stays", b.x.exitCode(), 255);
    Bench.due("written 2", b.x.written(2), 1);
    Bench.due("written 3", b.x.written(3), 3);
    Bench.due("written 1", b.x.written(1), -1);
    Bench.due("out", b.x.out(2, 0), 200);
    Bench.due("out behind", b.x.out(2, 1), -1);
    Bench.due("out before", b.x.out(3, -1), -1);
    Bench.due("out of another", b.x.out(4, 0), -1);
    Bench.due("memory", b.x.memory(1032), 0x01020384);
    Bench.due("memory without order", b.x.memory(1033), 'e' << 24 | 0x010203);
    Bench.due("memory at the end", b.x.memory(262143), 0);
    Bench.due("memory below", b.x.memory(-5), 0);
    Bench.due("memory far away", b.x.memory(Integer.MAX_VALUE), 0);
    Bench.due("memory far below", b.x.memory(Integer.MIN_VALUE), 0);
    Bench.due("heapEnd", b.x.heapEnd(), 1040);
    Bench.due("lowest", b.x.lowest(), 262144);
    Bench.due("steps", b.x.steps(), 4);
    Bench.due("about 0", b.x.about(0), 1);
    Bench.due("about 1", b.x.about(1), 1);
    Bench.due("about 2", b.x.about(2), 1);
    Bench.due("about 4", b.x.about(4), 0);
    Bench.due("about 5", b.x.about(5), -1);
    Bench.due("about -1", b.x.about(-1), -1);
    Bench.due("without fuel", b.x.run(0), 9);
    Bench.due("line 0", b.x.trapLine(), 0);
    Bench.due("no exit code", b.x.exitCode(), -1);
    Bench.due("no steps", b.x.steps(), 0);
    Bench.due("with 3", b.x.run(3), 9);
    Bench.due("line", b.x.trapLine(), 4);
    Bench.due("steps", b.x.steps(), 3);
  }
}
