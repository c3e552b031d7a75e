import java.util.ArrayList;
import java.util.List;

/** Rows of calls of malloc, calloc, realloc and free are made up, and done here as section 9 tells of the heap. */
public final class HeapTest {
  private static final int PROGRAMS = 150;
  private static final int CALLS = 60;
  private static final int SEATS = 8;
  /** Behind p and the string of o, at the next multiple of 16. */
  private static final int START = 1104;
  /** Of main's frame there is nothing, so the heap may go so far. */
  private static final int MOST_END = 262144 - 4096;

  private long state = 4242424242L;
  // The blocks from the heap's beginning on: where, size, whether taken.
  private final List<int[]> blocks = new ArrayList<>();
  private int end;

  public static void main(String[] args) {
    HeapTest test = new HeapTest();
    for (int i = 0; i < PROGRAMS; i++) {
      test.program(i);
    }
    Bench.finish();
  }

  private int random(int below) {
    state ^= state << 13;
    state ^= state >>> 7;
    state ^= state << 17;
    return (int) ((state >>> 1) % below);
  }

  private int allocate(long wanted) {
    long size = Math.max(8, (wanted + 7) / 8 * 8);
    for (int i = 0; i < blocks.size(); i++) {
      int[] block = blocks.get(i);
      if (block[2] == 0 && block[1] >= size) {
        if (block[1] >= size + 16) {
          blocks.add(i + 1, new int[] {block[0] + 8 + (int) size, block[1] - (int) size - 8, 0});
          block[1] = (int) size;
        }
        block[2] = 1;
        return block[0] + 8;
      }
    }
    if (wanted > 240000 || end + 8 + size > MOST_END) {
      return 0;
    }
    blocks.add(new int[] {end, (int) size, 1});
    end += 8 + (int) size;
    return end - (int) size;
  }

  private void release(int address) {
    int i = indexOf(address);
    blocks.get(i)[2] = 0;
    if (i + 1 < blocks.size() && blocks.get(i + 1)[2] == 0) {
      blocks.get(i)[1] += 8 + blocks.remove(i + 1)[1];
    }
    if (i > 0 && blocks.get(i - 1)[2] == 0) {
      blocks.get(i - 1)[1] += 8 + blocks.remove(i)[1];
      i--;
    }
    if (i == blocks.size() - 1) {
      end = blocks.remove(i)[0];
    }
  }

  private int indexOf(int address) {
    for (int i = 0; i < blocks.size(); i++) {
      if (blocks.get(i)[0] + 8 == address) {
        return i;
      }
    }
    return -1;
  }

  private int reallocate(int address, long wanted) {
    if (address == 0) {
      return allocate(wanted);
    }
    if (wanted == 0) {
      release(address);
      return 0;
    }
    if (blocks.get(indexOf(address))[1] >= Math.max(8, (wanted + 7) / 8 * 8)) {
      return address;
    }
    int moved = allocate(wanted);
    if (moved != 0) {
      release(address);
    }
    return moved;
  }

  /** What is asked for: mostly little, in some programs much. */
  private long size(int number) {
    int kind = random(10);
    if (number % 3 == 0 && kind < 3) {
      return random(120000);
    }
    return kind == 9 ? random(300) : random(40);
  }

  private void program(int number) {
    blocks.clear();
    end = START;
    int[] seats = new int[SEATS];
    StringBuilder c = new StringBuilder("char *p[16]; void o(char *q) { printf(\"%d \", q); } int main(void) {\n");
    StringBuilder want = new StringBuilder();
    for (int i = 0; i < CALLS; i++) {
      int seat = random(SEATS);
      long n = size(number);
      int kind = random(7);
      if (kind < 3) {
        c.append("free(p[").append(seat).append("]); p[").append(seat).append("] = 0;");
        if (seats[seat] != 0) {
          release(seats[seat]);
        }
        seats[seat] = 0;
      } else if (kind < 5) {
        int old = seats[seat];
        // Objects of main would take room from the heap: the answer is kept in p[15].
        c.append("p[15] = realloc(p[").append(seat).append("], ").append(n).append("); if (p[15] || ").append(n).append(" == 0) p[").append(seat).append("] = p[15];");
        int now = reallocate(old, n);
        seats[seat] = now != 0 || n == 0 ? now : old;
      } else if (seats[seat] == 0) {
        c.append("p[").append(seat).append("] = ").append(kind == 5 ? "malloc(" + n + ");" : "calloc(" + n + ", 1);");
        seats[seat] = allocate(n);
      }
      c.append(" o(p[").append(seat).append("]);\n");
      want.append(seats[seat]).append(' ');
    }
    c.append("}\n");
    Bench b = new Bench().source(c.toString()).runs("heap " + number, 100000, 0, 0);
    Bench.due("addresses " + number, b.wrote(2), want.toString());
    Bench.due("heapEnd " + number, b.x.heapEnd(), end);
    for (int[] block : blocks) {
      Bench.due("size at " + block[0], b.x.memory(block[0]), block[1]);
      Bench.due("taken at " + block[0], b.x.memory(block[0] + 4), block[2]);
    }
  }
}
