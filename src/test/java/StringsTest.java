/** Rows of calls of the functions over texts and bytes are made up, and done here as section 9 tells. */
public final class StringsTest {
  private static final int PROGRAMS = 200;
  private static final int CALLS = 25;
  private static final int SIZE = 96;

  private long state = 5772156649L;
  private final byte[] m = new byte[SIZE];

  public static void main(String[] args) {
    StringsTest test = new StringsTest();
    for (int i = 0; i < PROGRAMS; i++) {
      test.program();
    }
    Bench.finish();
  }

  private int random(int below) {
    state ^= state << 13;
    state ^= state >>> 7;
    state ^= state << 17;
    return (int) ((state >>> 1) % below);
  }

  private int length(int from) {
    int n = 0;
    while (m[from + n] != 0) {
      n++;
    }
    return n;
  }

  private static int order(int x, int y) {
    return Integer.compare(x & 255, y & 255);
  }

  private void program() {
    StringBuilder c = new StringBuilder("char m[" + SIZE + "]; void o(int n) { printf(\"%d \", n); }\nint main(void) {\n");
    StringBuilder want = new StringBuilder();
    for (int i = 0; i < SIZE; i++) {
      // In every row of 12 bytes there is a 0, so that texts end.
      m[i] = (byte) (i % 12 == 11 ? 0 : random(9) == 0 ? 0 : random(5) == 0 ? 200 + random(3) : 'a' + random(3));
      c.append(m[i] != 0 ? "m[" + i + "] = " + m[i] + "; " : "");
    }
    c.append("\n");
    for (int i = 0; i < CALLS; i++) {
      int a = random(SIZE / 2);
      int b = random(SIZE / 2);
      int n = random(16);
      int byteOf = random(4) == 0 ? random(512) - 256 : random(5) == 0 ? 0 : 'a' + random(3);
      call(c, want, random(17), a, b, n, byteOf);
    }
    String text = c.append("return 0; }\n").toString();
    Bench bench = new Bench().source(text).runs(text, 100000, 0, 0);
    Bench.due(text, bench.wrote(2), want.toString());
    for (int i = 0; i < SIZE; i++) {
      Bench.due("byte " + i + " of " + text, bench.x.memory(1024 + i) & 255, m[i] & 255);
    }
  }

  private void call(StringBuilder c, StringBuilder want, int which, int a, int b, int n, int byteOf) {
    String two = "(m + " + a + ", m + " + b;
    switch (which) {
      case 0: number(c, want, "strlen(m + " + a + ")", length(a)); break;
      case 1:
        if (Math.abs(a - b) > 12) {
          place(c, want, "strcpy" + two + ")", a);
          copy(a, b, length(b) + 1);
        }
        break;
      case 2:
        place(c, want, "strncpy" + two + ", " + n + ")", a);
        boolean ended = false;
        for (int i = 0; i < n; i++) {
          ended |= m[b + i] == 0;
          m[a + i] = ended ? 0 : m[b + i];
        }
        break;
      case 3: case 4:
        int end = a + length(a);
        int some = which == 3 ? length(b) : Math.min(length(b), n);
        if (end + some < b || b + some < a) {
          place(c, want, which == 3 ? "strcat" + two + ")" : "strncat" + two + ", " + n + ")", a);
          copy(end, b, some);
          m[end + some] = 0;
        }
        break;
      case 5: number(c, want, "strcmp" + two + ")", compare(a, b, 1000, true)); break;
      case 6: number(c, want, "strncmp" + two + ", " + n + ")", compare(a, b, n, true)); break;
      case 7: number(c, want, "memcmp" + two + ", " + n + ")", compare(a, b, n, false)); break;
      case 8: found(c, want, "strchr(m + " + a + ", " + byteOf + ")", find(a, byteOf, length(a) + 1, false)); break;
      case 9: found(c, want, "strrchr(m + " + a + ", " + byteOf + ")", find(a, byteOf, length(a) + 1, true)); break;
      case 10: found(c, want, "(char *)memchr(m + " + a + ", " + byteOf + ", " + n + ")", find(a, byteOf, n, false)); break;
      case 11: found(c, want, "strstr" + two + ")", findText(a, b)); break;
      case 12:
        place(c, want, "(char *)memcpy" + two + ", " + n + ")", a);
        copy(a, b, n);
        break;
      case 13: case 14:
        place(c, want, "(char *)memmove" + two + ", " + n + ")", a);
        System.arraycopy(m, b, m, a, n);
        break;
      default:
        place(c, want, "(char *)memset(m + " + a + ", " + byteOf + ", " + n % 6 + ")", a);
        java.util.Arrays.fill(m, a, a + n % 6, (byte) byteOf);
    }
    // Texts go on ending.
    for (int i = 11; i < SIZE; i += 12) {
      if (m[i] != 0) {
        m[i] = 0;
        c.append("m[").append(i).append("] = 0;\n");
      }
    }
  }

  private static void number(StringBuilder c, StringBuilder want, String call, int due) {
    c.append("o(").append(call).append(");\n");
    want.append(due).append(' ');
  }

  private static void place(StringBuilder c, StringBuilder want, String call, int due) {
    number(c, want, call + " - m", due);
  }

  private static void found(StringBuilder c, StringBuilder want, String call, int due) {
    number(c, want, call + " ? " + call + " - m : -1", due);
  }

  /** Upwards, whatever overlaps. */
  private void copy(int to, int from, int count) {
    for (int i = 0; i < count; i++) {
      m[to + i] = m[from + i];
    }
  }

  private int compare(int a, int b, int count, boolean texts) {
    for (int i = 0; i < count; i++) {
      if (m[a + i] != m[b + i]) {
        return order(m[a + i], m[b + i]);
      }
      if (texts && m[a + i] == 0) {
        return 0;
      }
    }
    return 0;
  }

  private int find(int from, int byteOf, int count, boolean last) {
    int found = -1;
    for (int i = 0; i < count && (last || found < 0); i++) {
      found = (m[from + i] & 255) == (byteOf & 255) ? from + i : found;
    }
    return found;
  }

  private int findText(int a, int b) {
    int length = length(b);
    for (int i = a; i <= a + length(a); i++) {
      int k = 0;
      while (k < length && m[i + k] == m[b + k]) {
        k++;
      }
      if (k == length) {
        return i;
      }
    }
    return -1;
  }
}
