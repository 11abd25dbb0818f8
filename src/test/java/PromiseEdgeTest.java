/** For each sentence of promises 1 to 13 that names a boundary case, a test of its own. */
public final class PromiseEdgeTest {
  private static final Check CHECK = new Check();
  private static final int ALL = Entries.ALL_MAY;
  private static final int LEAST = Integer.MIN_VALUE;
  private static final int MOST = Integer.MAX_VALUE;

  public static void main(String[] args) {
    newObject();
    put();
    entry();
    entryOf();
    region();
    regionRefused();
    whatRegionTakes();
    map();
    drop();
    readAndWrite();
    addressAndModeHaveLowestBits();
    anotherCount();
    where();
    whereChangesNothing();
    may();
    mayWhereThereWouldBeAccess();
    mayFaults();
    mayChangesNothing();
    kept();
    keptRefused();
    failed();
    failedIsOfReadAndWrite();
    CHECK.end();
  }

  private static void newObject() {
    CHECK.sentence("So many pages, if that is 4 .. 128, else 32; all bytes are 0, nothing is kept, the map is OFF.");
    int[] asked = {LEAST, -128, -4, -1, 0, 1, 3, 4, 5, 31, 32, 33, 127, 128, 129, 256, 4096, 0x10004, MOST};
    for (int pages : asked) {
      int bytes = 16 * (pages >= 4 && pages <= 128 ? pages : 32);
      KeptPages x = new KeptPages(pages);
      String of = "KeptPages(" + pages + ") ";
      CHECK.due(of + "last byte", x.read(bytes - 1, 1, 3), 0);
      CHECK.due(of + "the byte behind", x.read(bytes, 1, 3), -100);
      CHECK.due(of + "entryOf() behind", x.entryOf(bytes), -1);
      CHECK.due(of + "OFF", x.where(bytes - 1, 3, true), bytes - 1);
      CHECK.due(of + "failed()", x.failed(), -1);
      allZero(new KeptPages(pages), bytes);
    }
    KeptPages x = new KeptPages(4);
    for (int i = 0; i < 16; i++) {
      CHECK.due("new kept(" + i + ", 0)", x.kept(i, 0), 0);
    }
  }

  private static void put() {
    CHECK.sentence("A byte of physical memory is the lowest 8 bits of b: true; false if there is none such.");
    int[] sizes = {4, 32, 128};
    for (int size : sizes) {
      KeptPages x = new KeptPages(size);
      int[] none = {-1, LEAST, MOST, 16 * size, 16 * size + 1, 0x10000, -0x10000, 0x8000};
      for (int at : none) {
        CHECK.due("put(" + at + ", -1) of " + size, x.put(at, -1), false);
      }
      endsAreZero(x, 16 * size);
      CHECK.due("put(0, 0x1FF)", x.put(0, 0x1FF), true);
      CHECK.due("put(last, -128)", x.put(16 * size - 1, -128), true);
      CHECK.due("put(1, 0x7FFFFF00)", x.put(1, 0x7FFFFF00), true);
      CHECK.due("put(2, MIN)", x.put(2, LEAST), true);
      CHECK.due("the first byte alone", x.entryOf(0), 0xFF);
      CHECK.due("the last byte alone", x.entryOf(16 * size - 4), 0x80000000L);
    }
    KeptPages x = Entries.laidOut();
    CHECK.due("put() is physical while ON, too", x.put(0x8000, 1), false);
    CHECK.due("and where no region is", x.put(255, 1), true);
  }

  private static void entry() {
    CHECK.sentence("Four bytes of physical memory, from at on, are v: true; false if they are not all there.");
    int[] sizes = {4, 32, 128};
    for (int size : sizes) {
      KeptPages x = new KeptPages(size);
      int end = 16 * size;
      int[] none = {-1, -2, -3, -4, end - 3, end - 2, end - 1, end, LEAST, LEAST + 3, MOST, MOST - 2, MOST - 3};
      for (int at : none) {
        CHECK.due("entry(" + at + ", -1) of " + size, x.entry(at, -1), false);
      }
      endsAreZero(x, end);
      CHECK.due("the last four", x.entry(end - 4, LEAST), true);
      CHECK.due("the first four", x.entry(0, -1), true);
      CHECK.due("over a page's end", x.entry(14, 0x04030201), true);
      CHECK.due("the last four are", x.entryOf(end - 4), 0x80000000L);
      CHECK.due("the first four are", x.entryOf(0), 0xFFFFFFFFL);
      CHECK.due("behind them", x.entryOf(4), 0);
      CHECK.due("a page's end", x.entryOf(12), 0x02010000L);
      CHECK.due("the next one's start", x.entryOf(16), 0x0403L);
    }
  }

  /** At most 512 calls: what more would answer is free. */
  private static void allZero(KeptPages x, int bytes) {
    for (int at = 0; at < bytes; at += 4) {
      CHECK.due("0 is entryOf(" + at + ")", x.entryOf(at), 0);
    }
  }

  /** Both ends of memory, where a call for a byte that is not there could have gone. */
  private static void endsAreZero(KeptPages x, int end) {
    for (int i = 0; i < 64; i += 4) {
      CHECK.due("a refused call leaves entryOf(" + i + ")", x.entryOf(i), 0);
      CHECK.due("a refused call leaves entryOf(" + (end - 4 - i) + ")", x.entryOf(end - 4 - i), 0);
    }
  }

  private static void entryOf() {
    CHECK.sentence("Four bytes of physical memory, without sign; -1 if they are not all there.");
    int[] sizes = {4, 32, 128};
    for (int size : sizes) {
      KeptPages x = new KeptPages(size);
      int end = 16 * size;
      for (int i = 0; i < 8; i++) {
        x.put(i, 0xFF);
        x.put(end - 1 - i, 0xFF);
      }
      int[] none = {-1, -3, -4, end - 3, end - 1, end, LEAST, MOST, MOST - 2, MOST - 3, 0x10000};
      for (int at : none) {
        CHECK.due("entryOf(" + at + ") of " + size, x.entryOf(at), -1);
      }
      CHECK.due("entryOf(0)", x.entryOf(0), 0xFFFFFFFFL);
      CHECK.due("entryOf(1)", x.entryOf(1), 0xFFFFFFFFL);
      CHECK.due("entryOf() of the last four", x.entryOf(end - 4), 0xFFFFFFFFL);
    }
  }

  private static void region() {
    CHECK.sentence("Base and length of a region (0, 1, 2) are the lowest 16 bits of these");
    int[] high = {0, 0x10000, 0x7FFF0000, LEAST, 0xFFFF0000};
    for (int more : high) {
      KeptPages x = Entries.laidOut();
      x.entry(0x80, Entries.valid(ALL, 14));
      x.entry(0xA0, Entries.valid(ALL, 13));
      CHECK.due("region(2) with " + more, x.region(2, more, more | 11), true);
      CHECK.due("region(0) with " + more, x.region(0, more | 0x8080, more | 1), true);
      CHECK.due("region(1) with " + more, x.region(1, more | 0x80A0 - 4 * 1023, more | 1023), true);
      CHECK.due("A's page 0", x.where(0, 3, true), 14 * 16);
      CHECK.due("A's page 1", x.where(16, 3, true), -6);
      CHECK.due("B's page 1023", x.where(0x7FF0, 3, true), 13 * 16);
      CHECK.due("B's page 1022", x.where(0x7FE0, 3, true), -6);
      CHECK.due("S's page 10", x.where(0x80A0, 3, true), 10 * 16);
      CHECK.due("S's page 11", x.where(0x80B0, 3, true), -6);
    }
  }

  private static void regionRefused() {
    CHECK.sentence("region: false for another region");
    int[] wrong = {-1, 3, 4, 7, 0x10000, 0x10001, -2, LEAST, MOST};
    KeptPages x = keeping();
    for (int region : wrong) {
      CHECK.due("region(" + region + ", 0, 0)", x.region(region, 0, 0), false);
    }
    CHECK.due("A's stays kept", x.kept(1, 0), 1);
    CHECK.due("B's stays kept", x.kept(4, 0), 1);
    CHECK.due("S's stays kept", x.kept(13, 0), 1);
    x.map(true);
    CHECK.due("A stays as it was", x.where(0x10, 0, false), 12 * 16);
    CHECK.due("B stays as it was", x.where(0x7FC0, 0, false), 13 * 16);
    CHECK.due("S stays as it was", x.where(0x80F0, 0, false), 15 * 16);
  }

  /** Kept are A's page 1, B's page 1020 (slot 4), S's pages 8 and 10 with the tables, and 5. */
  private static KeptPages keeping() {
    KeptPages x = Entries.laidOut();
    x.entry(0x84, Entries.valid(ALL, 12));
    x.entry(0xA0, Entries.valid(ALL, 13));
    x.read(0x10, 1, 3);
    x.read(0x7FC0, 1, 3);
    x.read(0x8050, 1, 3);
    return x;
  }

  private static void whatRegionTakes() {
    CHECK.sentence("of A or B: kept entries of A and B go, of S: all");
    int[] ab = {1, 4};
    int[] s = {8, 10, 13};
    for (int region = 0; region < 3; region++) {
      KeptPages x = keeping();
      // The same base and length as before: what is kept goes all the same.
      int[] bases = {0x8080, 0x80A0 - 4 * 1020, 0};
      int[] lengths = {4, 1020, 16};
      for (int i : ab) {
        CHECK.due("before: kept(" + i + ", 0)", x.kept(i, 0), 1);
      }
      for (int i : s) {
        CHECK.due("before: kept(" + i + ", 0)", x.kept(i, 0), 1);
      }
      CHECK.due("region(" + region + ", ..)", x.region(region, bases[region], lengths[region]), true);
      for (int i : ab) {
        CHECK.due("after region(" + region + "): kept(" + i + ", 0)", x.kept(i, 0), 0);
      }
      for (int i : s) {
        CHECK.due("after region(" + region + "): kept(" + i + ", 0)", x.kept(i, 0), region == 2 ? 0 : 1);
      }
    }
  }

  private static void map() {
    CHECK.sentence("The map is ON or OFF; all kept entries go.");
    KeptPages x = keeping();
    x.map(true);
    noneKept(x, "ON while ON");
    CHECK.due("it is ON", x.where(0x11, 0, false), 12 * 16 + 1);
    x.read(0x10, 1, 0);
    x.map(false);
    noneKept(x, "OFF while ON");
    CHECK.due("it is OFF", x.where(0x11, 0, false), 0x11);
    x.map(false);
    noneKept(x, "OFF while OFF");
    x.read(0x10, 1, 0);
    noneKept(x, "read while OFF");
    x.map(true);
    noneKept(x, "ON while OFF");
    CHECK.due("bases and lengths stay", x.where(0x11, 0, false), 12 * 16 + 1);
    CHECK.due("memory stays", x.entryOf(0x84), Entries.unsigned(Entries.valid(ALL, 12)));
  }

  private static void noneKept(KeptPages x, String when) {
    for (int i = 0; i < 16; i++) {
      CHECK.due(when + ": kept(" + i + ", 0)", x.kept(i, 0), 0);
    }
  }

  private static void drop() {
    CHECK.sentence("The kept entry of an address's page goes, if there is one (that counts): whether there was.");
    KeptPages x = keeping();
    int[] unlike = {0x0F, 0x20, 0x90, 0x4010, 0x8010, 0xC010, 0x3FC0, 0x7F40, 0xBFC0, 0x8000, 0x80D0, 0xC050, 0xC080};
    for (int at : unlike) {
      CHECK.due("drop(" + at + ")", x.drop(at), false);
    }
    int[] like = {0x1F, 0x10000 + 0x7FC0, 0xFFFF805F, 0x8080, 0x80AF};
    int[] slots = {1, 4, 13, 8, 10};
    for (int i = 0; i < like.length; i++) {
      CHECK.due("kept(" + slots[i] + ", 0) ahead", x.kept(slots[i], 0), 1);
      CHECK.due("drop(" + like[i] + ")", x.drop(like[i]), true);
      CHECK.due("kept(" + slots[i] + ", 0) then", x.kept(slots[i], 0), 0);
      CHECK.due("kept(" + slots[i] + ", 2) then", x.kept(slots[i], 2), -1);
      CHECK.due("drop(" + like[i] + ") again", x.drop(like[i]), false);
    }
    noneKept(x, "all dropped");
    x.map(false);
    CHECK.due("drop() while OFF", x.drop(0x10), false);
    CHECK.due("drop() of a new object", new KeptPages(4).drop(0), false);
  }

  private static void readAndWrite() {
    CHECK.sentence("n bytes (1, 2, 4) from an address on");
    int[] counts = {1, 2, 4};
    long[] all = {0xFFL, 0xFFFFL, 0xFFFFFFFFL};
    for (int i = 0; i < 3; i++) {
      int n = counts[i];
      KeptPages x = Entries.laidOut();
      CHECK.due("write(0x80F8, " + n + ", -1, 3)", x.write(0x80F8, n, -1, 3), 0);
      CHECK.due("read() without sign", x.read(0x80F8, n, 3), all[i]);
      CHECK.due("bytes behind stay", x.read(0x80F8 + n, 4, 3), 0);
      CHECK.due("bytes ahead stay", x.read(0x80F4, 4, 3), 0);
      CHECK.due("write() of the lowest", x.write(0x80F8, n, 0x83828180, 3), 0);
      CHECK.due("read() of the lowest", x.read(0x80F8, n, 3), 0x83828180L & all[i]);
      CHECK.due("the last bytes", x.write(0x8100 - n, n, LEAST | 1, 3), 0);
      CHECK.due("are there", x.read(0x8100 - n, n, 3), 0x80000001L & all[i]);
      CHECK.due("one byte more is outside", x.write(0x8101 - n, n, 0, 3), -6);
      CHECK.due("and leaves them", x.read(0x8100 - n, n, 3), 0x80000001L & all[i]);
    }
  }

  private static void addressAndModeHaveLowestBits() {
    CHECK.sentence("from an address on (its lowest 16 bits) are read in a mode (its lowest 2)");
    KeptPages x = Entries.laidOut();
    x.entry(0x80, Entries.valid(9, 14));
    int[] modes = {0, 1, 2, 3, 4, 5, 6, 7, -1, -2, -3, -4, LEAST, MOST, MOST - 1, LEAST + 2};
    for (int mode : modes) {
      int low = mode & 3;
      CHECK.due("read in " + mode, x.read(0, 1, mode), low <= 2 ? 0 : -1);
      CHECK.due("write in " + mode, x.write(0, 1, 0, mode), low <= 1 ? 0 : -5);
      CHECK.due("where, read in " + mode, x.where(0, mode, false), low <= 2 ? 14 * 16 : -1);
      CHECK.due("where, write in " + mode, x.where(0, mode, true), low <= 1 ? 14 * 16 : -5);
      CHECK.due("may, read in " + mode, x.may(0, mode, false), low <= 2 ? 1 : 0);
      CHECK.due("may, write in " + mode, x.may(0, mode, true), low <= 1 ? 1 : 0);
    }
    int[] high = {0x10000, 0x7FFF0000, LEAST, 0xFFFF0000};
    for (int more : high) {
      CHECK.due("write to " + more + " | 3", x.write(more | 3, 1, more >>> 24, 0), 0);
      CHECK.due("read from 3", x.read(3, 1, 0), more >>> 24);
      CHECK.due("read from " + more + " | 3", x.read(more | 3, 1, 0), more >>> 24);
      CHECK.due("read from " + more + " | 0xC000", x.read(more | 0xC000, 1, 0), -2);
      CHECK.due("failed()", x.failed(), 0xC000);
      CHECK.due("may() at " + more + " | 3", x.may(more | 3, 2, false), 1);
    }
  }

  private static void anotherCount() {
    CHECK.sentence("-101 for another n");
    int[] wrong = {0, 3, 5, 6, 7, 8, 16, -1, -2, -4, 0x10001, 0x10004, LEAST, LEAST + 1, MOST};
    int[] addresses = {0, 0x40, 0x80F0, 0xC000, 0xFFFF};
    KeptPages x = Entries.laidOut();
    x.entry(0x80, Entries.valid(ALL, 14));
    for (int n : wrong) {
      for (int at : addresses) {
        CHECK.due("read(" + at + ", " + n + ", 0)", x.read(at, n, 0), -101);
        CHECK.due("write(" + at + ", " + n + ", -1, 0)", x.write(at, n, -1, 0), -101);
      }
    }
    noneKept(x, "another n");
    CHECK.due("failed()", x.failed(), -1);
    CHECK.due("nothing becomes WRITTEN", x.entryOf(0x80), Entries.unsigned(Entries.valid(ALL, 14)));
    CHECK.due("nothing is written to A", x.entryOf(14 * 16), 0);
    CHECK.due("nothing is written to S", x.entryOf(15 * 16), 0);
    x.map(false);
    CHECK.due("OFF read(0, 3, 0)", x.read(0, 3, 0), -101);
    CHECK.due("OFF write(0xFFFF, 0, 0, 0)", x.write(0xFFFF, 0, 0, 0), -101);
  }

  private static void where() {
    CHECK.sentence("where: a fault (BEYOND, too, if it is not in memory)");
    KeptPages x = Entries.laidOut();
    x.entry(0x80, Entries.valid(ALL, 15));
    x.entry(0x84, Entries.valid(ALL, 16));
    x.entry(0x88, Entries.valid(2, 0xFFF));
    CHECK.due("the last byte in memory", x.where(0x0F, 0, false), 255);
    CHECK.due("the byte behind it in A is of another page", x.where(0x10, 0, false), -100);
    CHECK.due("page 4095", x.where(0x2F, 0, true), -100);
    CHECK.due("ACCESS goes ahead of BEYOND", x.where(0x2F, 1, true), -5);
    x.read(0x10, 1, 0);
    CHECK.due("BEYOND through a kept one", x.where(0x1F, 3, true), -100);
    CHECK.due("one byte is asked for, not its next", x.where(0x80FF, 0, true), 255);
    x.region(2, 253, 16);
    CHECK.due("S's entry is not all in memory", x.where(0x8000, 0, false), -100);
    CHECK.due("that of the table neither", x.where(0, 0, false), -100);
    x.map(false);
    CHECK.due("OFF, the last byte", x.where(255, 3, true), 255);
    CHECK.due("OFF, the byte behind", x.where(256, 3, true), -100);
    CHECK.due("OFF, the highest address", x.where(-1, 3, true), -100);
  }

  private static void whereChangesNothing() {
    CHECK.sentence("where: nothing is kept or changed");
    KeptPages x = Entries.laidOut();
    x.entry(0x80, Entries.valid(ALL, 14));
    CHECK.due("where() for writing", x.where(5, 3, true), 14 * 16 + 5);
    CHECK.due("where() of S for writing", x.where(0x80F5, 3, true), 15 * 16 + 5);
    unchanged(x);
    x.where(0xC000, 0, true);
    x.where(0x10, 0, false);
    CHECK.due("a fault of where() is not failed()'s", x.failed(), -1);
    x.read(5, 1, 0);
    CHECK.due("where() of a kept one, for writing", x.where(5, 3, true), 14 * 16 + 5);
    CHECK.due("the kept one stays", x.kept(0, 2), Entries.unsigned(Entries.valid(ALL, 14)));
    x.read(0x8000, 1, 0);
    CHECK.due("where() by another table", x.where(5, 0, false), 14 * 16 + 5);
    CHECK.due("S's kept one is not put out", x.kept(8, 1), 0x8000);
  }

  private static void unchanged(KeptPages x) {
    noneKept(x, "asked alone");
    CHECK.due("A's entry in memory", x.entryOf(0x80), Entries.unsigned(Entries.valid(ALL, 14)));
    CHECK.due("S's entry in memory", x.entryOf(4 * 15), Entries.unsigned(Entries.valid(ALL, 15)));
    CHECK.due("its table's in memory", x.entryOf(4 * 8), Entries.unsigned(Entries.valid(ALL, 8)));
    CHECK.due("failed()", x.failed(), -1);
  }

  private static void may() {
    CHECK.sentence("gives the mode the right, VALID or not, as a kept one, or one that is read, says: 1 or 0");
    for (int code = 0; code < 16; code++) {
      for (int mode = 0; mode < 4; mode++) {
        mayAs(Entries.valid(code, 14), mode);
        mayAs(Entries.notValid(code, 14), mode);
        mayAs(Entries.valid(code, 0xFFF), mode);
      }
    }
    KeptPages x = Entries.laidOut();
    x.entry(0x80, Entries.valid(15, 14));
    x.read(0, 1, 3);
    x.entry(0x80, Entries.valid(2, 14));
    CHECK.due("the kept one says: read", x.may(0, 3, false), 1);
    CHECK.due("the kept one says: write", x.may(0, 0, true), 0);
    CHECK.due("it is found by 16 bits of the address", x.may(0xFFFF0000, 3, false), 1);
    CHECK.due("by 16 bits again", x.may(0x10000F, 0, true), 0);
    x.drop(0);
    CHECK.due("the one that is read says: read", x.may(0, 3, false), 0);
    CHECK.due("the one that is read says: write", x.may(0, 0, true), 1);
    x.read(0x80F0, 1, 0);
    x.entry(4 * 15, 0);
    CHECK.due("S's kept one says", x.may(0x80F0, 3, true), 1);
    x.drop(0x80F0);
    CHECK.due("S's that is read says", x.may(0x80F0, 0, false), 0);
    CHECK.due("one that is read at physical 0 says", x.may(0x8000, 3, true), 1);
    x.map(false);
    CHECK.due("OFF 1", x.may(0, 3, true), 1);
    CHECK.due("OFF 1 in region 3", x.may(0xFFFF, 3, true), 1);
    CHECK.due("OFF 1 behind memory", x.may(256, 3, false), 1);
  }

  /** may() has the answers of read() and write() to an entry that is VALID, of A, B and S alike. */
  private static void mayAs(int entry, int mode) {
    KeptPages x = Entries.laidOut();
    x.entry(0x80, entry);
    x.entry(0xA0, entry);
    x.entry(4 * 15, entry);
    KeptPages y = Entries.laidOut();
    y.entry(0x80, entry & ~0xFFF | Entries.VALID | 14);
    int readable = y.read(0, 1, mode) == 0 ? 1 : 0;
    int writable = y.write(0, 1, 0, mode) == 0 ? 1 : 0;
    int[] addresses = {0, 0x7FC0, 0x80FF};
    for (int at : addresses) {
      CHECK.due("may(" + at + ", " + mode + ", false) of " + entry, x.may(at, mode, false), readable);
      CHECK.due("may(" + at + ", " + mode + ", true) of " + entry, x.may(at, mode, true), writable);
    }
  }

  private static void mayWhereThereWouldBeAccess() {
    CHECK.sentence("may: 0 (also where there would be ACCESS with 1 or 3)");
    KeptPages x = Entries.laidOut();
    int[] outside = {0x40, 0x3FFF, 0x4000, 0x7FBF, 0x8100, 0xBFFF, 0xC000, 0xFFFF};
    for (int at : outside) {
      CHECK.due("may(" + at + ", 0, false)", x.may(at, 0, false), 0);
      CHECK.due("may(" + at + ", 0, true)", x.may(at, 0, true), 0);
    }
    int[] noTable = {0, 0x4000, 0x7FFF, 0x8100, 0xC000, 0xFFFF};
    for (int base : noTable) {
      x.region(0, base, 1);
      CHECK.due("A's base " + base + ", read", x.may(0, 0, false), 0);
      CHECK.due("A's base " + base + ", write", x.may(0, 0, true), 0);
    }
  }

  private static void mayFaults() {
    CHECK.sentence("may: MISSING with 2 (6), and BEYOND of an entry, are faults");
    KeptPages x = Entries.laidOut();
    x.entry(4 * 8, Entries.notValid(ALL, 8));
    CHECK.due("MISSING with 2", x.may(0, 0, false), -13);
    CHECK.due("MISSING with 6", x.may(0, 0, true), -17);
    x.entry(4 * 8, Entries.valid(ALL, 16));
    CHECK.due("A's entry is BEYOND", x.may(0, 0, false), -100);
    CHECK.due("A's entry is BEYOND, write", x.may(0, 0, true), -100);
    x.entry(4 * 8, Entries.valid(ALL, 15));
    x.region(0, 0x808D, 1);
    CHECK.due("A's entry is BEYOND by a byte", x.may(0, 0, false), -100);
    x.region(0, 0x808C, 1);
    CHECK.due("A's entry is there", x.may(0, 0, false), 0);
    x.region(2, 256 - 35, 16);
    CHECK.due("S's entry is BEYOND by a byte", x.may(0x8080, 0, false), -100);
    CHECK.due("that of A's table", x.may(0, 0, true), -100);
    CHECK.due("S's entry is there", x.may(0x8070, 0, false), 0);
    noneKept(x, "faults of may()");
    CHECK.due("failed()", x.failed(), -1);
  }

  private static void mayChangesNothing() {
    CHECK.sentence("may: nothing is kept or changed");
    KeptPages x = Entries.laidOut();
    x.entry(0x80, Entries.valid(ALL, 14));
    CHECK.due("may()", x.may(5, 3, true), 1);
    CHECK.due("may() of S", x.may(0x80F5, 3, true), 1);
    unchanged(x);
    x.read(5, 1, 0);
    CHECK.due("may() of a kept one", x.may(5, 3, true), 1);
    CHECK.due("the kept one stays", x.kept(0, 2), Entries.unsigned(Entries.valid(ALL, 14)));
    x.read(0x8000, 1, 0);
    x.drop(5);
    CHECK.due("may() by another table", x.may(5, 0, false), 1);
    CHECK.due("S's kept one is not put out", x.kept(8, 1), 0x8000);
    CHECK.due("A's is not kept", x.kept(0, 0), 0);
  }

  private static void kept() {
    CHECK.sentence("0: 1 if there is one, else 0; 1 the address; 2 the entry without sign (1, 2: -1 if there is none)");
    KeptPages x = keeping();
    int[] slots = {1, 4, 8, 10, 13};
    int[] addresses = {0x10, 0x7FC0, 0x8080, 0x80A0, 0x8050};
    int[] pages = {12, 13, 8, 10, 5};
    int next = 0;
    for (int i = 0; i < 16; i++) {
      boolean one = next < slots.length && slots[next] == i;
      CHECK.due("kept(" + i + ", 0)", x.kept(i, 0), one ? 1 : 0);
      CHECK.due("kept(" + i + ", 1)", x.kept(i, 1), one ? addresses[next] : -1);
      CHECK.due("kept(" + i + ", 2)", x.kept(i, 2), one ? Entries.unsigned(Entries.valid(ALL, pages[next])) : -1);
      next += one ? 1 : 0;
    }
    x.read(0x8000, 1, 0);
    CHECK.due("page 0 of S", x.kept(8, 1), 0x8000);
    x.entry(0x80, 0xFFFFF00E);
    x.read(7, 1, 0);
    CHECK.due("page 0 of A has address 0", x.kept(0, 1), 0);
    CHECK.due("all bits of the entry", x.kept(0, 2), 0xFFFFF00EL);
  }

  private static void keptRefused() {
    CHECK.sentence("-1 for another i or what");
    int[] wrong = {-1, -8, 16, 17, 24, 0x10000, LEAST, MOST};
    int[] wrongWhat = {-1, 3, 4, 0x10000, LEAST, MOST};
    KeptPages x = keeping();
    for (int i : wrong) {
      for (int what = -1; what < 4; what++) {
        CHECK.due("kept(" + i + ", " + what + ")", x.kept(i, what), -1);
      }
    }
    for (int what : wrongWhat) {
      for (int i = 0; i < 16; i++) {
        CHECK.due("kept(" + i + ", " + what + ")", x.kept(i, what), -1);
      }
    }
  }

  private static void failed() {
    CHECK.sentence("of the page that failed, its first byte that was asked for; -1 without one");
    KeptPages x = Entries.laidOut();
    x.entry(0x80, Entries.valid(ALL, 14));
    CHECK.due("without one", x.failed(), -1);
    CHECK.due("all is well", x.write(0, 4, 0, 0), 0);
    CHECK.due("still without one", x.failed(), -1);
    CHECK.due("a fault at 0x1F", x.read(0x1F, 2, 0), -1);
    CHECK.due("the first page failed", x.failed(), 0x1F);
    CHECK.due("a fault behind 0x0D", x.write(0x0D, 4, 0, 0), -5);
    CHECK.due("the second page failed", x.failed(), 0x10);
    CHECK.due("a fault at 0", x.read(0xC000, 1, 0), -2);
    CHECK.due("the last fault", x.failed(), 0xC000);
    CHECK.due("asked again", x.failed(), 0xC000);
    CHECK.due("no bits above 16", x.read(0xABCDFFFF, 1, 0), -2);
    CHECK.due("the highest", x.failed(), 0xFFFF);
    x.entry(0x80, 0);
    x.drop(0);
    CHECK.due("a fault at 0", x.read(0, 1, 0), -1);
    CHECK.due("the lowest", x.failed(), 0);
    x.entry(4 * 10, 0);
    CHECK.due("MISSING with 2", x.read(0x7FC9, 1, 0), -13);
    CHECK.due("is of the address that was asked for", x.failed(), 0x7FC9);
  }

  private static void failedIsOfReadAndWrite() {
    CHECK.sentence("the last fault ACCESS or MISSING of read() and write()");
    KeptPages x = Entries.laidOut();
    x.entry(0x84, Entries.notValid(ALL, 14));
    CHECK.due("MISSING", x.write(0x13, 1, 0, 0), -15);
    x.entry(0x80, Entries.valid(ALL, 16));
    CHECK.due("BEYOND", x.read(0, 1, 0), -100);
    CHECK.due("another n", x.read(0xC000, 3, 0), -101);
    CHECK.due("where()", x.where(0xC000, 0, false), -2);
    CHECK.due("may()", x.may(0xC000, 0, false), 0);
    CHECK.due("drop()", x.drop(0xC000), false);
    CHECK.due("region()", x.region(3, 0, 0), false);
    CHECK.due("well", x.write(0x80F0, 1, 0, 0), 0);
    CHECK.due("put()", x.put(-1, 0), false);
    CHECK.due("entry()", x.entry(-1, 0), false);
    CHECK.due("entryOf()", x.entryOf(-1), -1);
    CHECK.due("kept()", x.kept(-1, 0), -1);
    CHECK.due("none of these counts", x.failed(), 0x13);
    x.region(2, 0, 16);
    x.map(false);
    CHECK.due("nor region() and map()", x.failed(), 0x13);
    CHECK.due("a new object has its own", new KeptPages(4).failed(), -1);
  }
}
