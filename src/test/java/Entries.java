/** Entries as numbers, and an object whose S tables are laid out. */
final class Entries {
  static final int VALID = 1 << 31;
  static final int WRITTEN = 1 << 26;
  static final int ALL_MAY = 4;
  static final int S_START = 0x8000;
  static final int B_START = 0x4000;

  private Entries() {
  }

  static int valid(int code, int page) {
    return VALID | code << 27 | page;
  }

  static int notValid(int code, int page) {
    return code << 27 | page;
  }

  static long unsigned(int entry) {
    return entry & 0xFFFFFFFFL;
  }

  /**
   * 16 pages, the map ON. S: base 0, length 16, page p is physical page p, for all modes. A: entries
   * at physical 0x80, length 4; B: its page 1020 has its entry at physical 0xA0, length 1020. All
   * entries of A and B are 0.
   */
  static KeptPages laidOut() {
    KeptPages x = new KeptPages(16);
    for (int p = 0; p < 16; p++) {
      x.entry(4 * p, valid(ALL_MAY, p));
    }
    x.region(2, 0, 16);
    x.region(0, S_START + 0x80, 4);
    x.region(1, S_START + 0xA0 - 4 * 1020, 1020);
    x.map(true);
    return x;
  }
}
