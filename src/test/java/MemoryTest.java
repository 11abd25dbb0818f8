/** Promises 1 to 4: a new object, put, entry, entryOf. */
public final class MemoryTest {
  private static final Check CHECK = new Check();

  public static void main(String[] args) {
    sizes();
    newObject();
    put();
    entry();
    entryOf();
    objectsAreApart();
    CHECK.end();
  }

  private static void sizes() {
    int[] asked = {4, 5, 32, 127, 128, 3, 129, 0, -1, 64, Integer.MIN_VALUE, Integer.MAX_VALUE, 1 << 28};
    int[] pages = {4, 5, 32, 127, 128, 32, 32, 32, 32, 64, 32, 32, 32};
    for (int i = 0; i < asked.length; i++) {
      KeptPages x = new KeptPages(asked[i]);
      String of = "KeptPages(" + asked[i] + ") ";
      CHECK.due(of + "last byte", x.put(16 * pages[i] - 1, 1), true);
      CHECK.due(of + "byte behind", x.put(16 * pages[i], 1), false);
      CHECK.due(of + "last four", x.entry(16 * pages[i] - 4, 1), true);
      CHECK.due(of + "last three", x.entry(16 * pages[i] - 3, 1), false);
    }
  }

  private static void newObject() {
    KeptPages x = new KeptPages(4);
    for (int at = 0; at < 64; at += 4) {
      CHECK.due("new entryOf(" + at + ")", x.entryOf(at), 0);
    }
    for (int i = 0; i < 16; i++) {
      CHECK.due("new kept(" + i + ", 0)", x.kept(i, 0), 0);
      CHECK.due("new kept(" + i + ", 1)", x.kept(i, 1), -1);
      CHECK.due("new kept(" + i + ", 2)", x.kept(i, 2), -1);
    }
    CHECK.due("new failed()", x.failed(), -1);
    CHECK.due("new: OFF, where(63)", x.where(63, 3, true), 63);
    CHECK.due("new: OFF, where(64)", x.where(64, 3, true), -100);
    CHECK.due("new: OFF, may", x.may(0xC000, 3, true), 1);
    x.map(true);
    CHECK.due("A's length is 0", x.read(0, 1, 0), -2);
    CHECK.due("B's length and base are 0", x.read(0x4000, 1, 0), -4);
    CHECK.due("S's length is 0", x.read(0x8000, 1, 0), -2);
  }

  private static void put() {
    KeptPages x = new KeptPages(4);
    CHECK.due("put(0, 0x1FE)", x.put(0, 0x1FE), true);
    CHECK.due("put(1, -1)", x.put(1, -1), true);
    CHECK.due("put(3, 0x7F)", x.put(3, 0x7F), true);
    CHECK.due("entryOf(0)", x.entryOf(0), 0x7F00FFFEL);
    CHECK.due("put(0, 0x100)", x.put(0, 0x100), true);
    CHECK.due("entryOf(0) again", x.entryOf(0), 0x7F00FF00L);
    int[] none = {-1, 64, 0x10000, Integer.MAX_VALUE, Integer.MIN_VALUE};
    for (int at : none) {
      CHECK.due("put(" + at + ", 9)", x.put(at, 9), false);
    }
    CHECK.due("put() of no byte leaves entryOf(0)", x.entryOf(0), 0x7F00FF00L);
    CHECK.due("put() of no byte leaves entryOf(60)", x.entryOf(60), 0);
  }

  private static void entry() {
    KeptPages x = new KeptPages(4);
    CHECK.due("entry(5, 0x84030201)", x.entry(5, 0x84030201), true);
    for (int i = 0; i < 4; i++) {
      CHECK.due("byte " + i, x.read(5 + i, 1, 0), i == 3 ? 0x84 : i + 1);
    }
    CHECK.due("byte ahead", x.read(4, 1, 0), 0);
    CHECK.due("byte behind", x.read(9, 1, 0), 0);
    int[] none = {-1, -3, -4, 61, 62, 63, 64, Integer.MAX_VALUE, Integer.MAX_VALUE - 3, Integer.MIN_VALUE};
    for (int at : none) {
      CHECK.due("entry(" + at + ", -1)", x.entry(at, -1), false);
    }
    CHECK.due("entry() of none leaves entryOf(0)", x.entryOf(0), 0);
    CHECK.due("entry() of none leaves entryOf(60)", x.entryOf(60), 0);
    CHECK.due("entry(60, -2)", x.entry(60, -2), true);
    CHECK.due("entryOf(60)", x.entryOf(60), 0xFFFFFFFEL);
  }

  private static void entryOf() {
    KeptPages x = new KeptPages(4);
    x.entry(0, Integer.MIN_VALUE);
    CHECK.due("entryOf(0) has no sign", x.entryOf(0), 0x80000000L);
    x.entry(4, 0x11);
    CHECK.due("entryOf(1)", x.entryOf(1), 0x11800000L);
    int[] none = {-1, -4, 61, 64, Integer.MAX_VALUE, Integer.MIN_VALUE, 0x10000};
    for (int at : none) {
      CHECK.due("entryOf(" + at + ")", x.entryOf(at), -1);
    }
  }

  private static void objectsAreApart() {
    KeptPages x = new KeptPages(4);
    KeptPages y = new KeptPages(4);
    x.put(0, 1);
    x.region(0, 0, 1);
    x.map(true);
    CHECK.due("another object's byte", y.entryOf(0), 0);
    CHECK.due("another object's map", y.may(0, 0, false), 1);
  }
}
