/** For each sentence of the document's "Terms" that names a boundary case, a test of its own. */
public final class TermsEdgeTest {
  private static final Check CHECK = new Check();
  private static final int ALL = Entries.ALL_MAY;
  private static final int WRITTEN = Entries.WRITTEN;

  public static void main(String[] args) {
    lowestByteFirst();
    sumsWrap();
    mapOff();
    atFirstZero();
    insideOfALength();
    addressOfAnEntry();
    outsideOrRegion3();
    tableOutsideOfS();
    tableNotValid();
    rightsAndValid();
    fourMoreForWriting();
    sixteenAreKept();
    oneCountsIfLike();
    lengthIsNotAskedOfAKeptOne();
    becomesWritten();
    beyondMemory();
    entryLiesPhysically();
    pagesOfAnAccess();
    firstPageFirst();
    faultsGoAheadOfBeyond();
    onlyThenSomethingIsWritten();
    whatWasKeptStays();
    memoryIsTheClassesOwn();
    fiveHundredAndTwelveCalls();
    CHECK.end();
  }

  private static void lowestByteFirst() {
    CHECK.sentence("numbers in it have their lowest byte first");
    KeptPages x = new KeptPages(4);
    x.put(0, 0x80);
    x.put(3, 0x81);
    CHECK.due("entryOf(0)", x.entryOf(0), 0x81000080L);
    CHECK.due("read(0, 4, 0)", x.read(0, 4, 0), 0x81000080L);
    CHECK.due("read(0, 2, 0)", x.read(0, 2, 0), 0x80);
    CHECK.due("read(2, 2, 0)", x.read(2, 2, 0), 0x8100);
  }

  private static void sumsWrap() {
    CHECK.sentence("(Sums wrap in 16 bits.)");
    KeptPages x = Entries.laidOut();
    x.entry(0x80, Entries.valid(ALL, 14));
    for (int n = 1; n <= 4; n *= 2) {
      CHECK.due("read(0xFFFF, " + n + ", 0)", x.read(0xFFFF, n, 0), -2);
      CHECK.due("write(0xFFFF, " + n + ", ..)", x.write(0xFFFF, n, -1, 0), -6);
      CHECK.due("failed()", x.failed(), 0xFFFF);
    }
    CHECK.due("the page behind the last, 0, is not looked at", x.kept(0, 0), 0);
    CHECK.due("where(0x1000F, ..)", x.where(0x1000F, 0, false), 14 * 16 + 15);
    CHECK.due("where(-0x10000, ..)", x.where(-0x10000, 0, false), 14 * 16);
    CHECK.due("where(0x7FFF0001, ..)", x.where(0x7FFF0001, 0, false), 14 * 16 + 1);
    x.region(1, 0x10000 - 4 * 1020, 1020);
    CHECK.due("an entry's address that wraps to 0, of A", x.read(0x7FC0, 1, 0), -4);
    x.region(1, 0xFFFF, 0);
    CHECK.due("the furthest entry's address", x.write(0x7FF0, 1, 0, 0), -8);
    x.map(false);
    CHECK.due("OFF, over the last address", x.write(0xFFFD, 4, -1, 0), -100);
    CHECK.due("OFF, bytes from 0 on stay", x.entryOf(0), Entries.unsigned(Entries.valid(ALL, 0)));
  }

  private static void mapOff() {
    CHECK.sentence("While the map is OFF a virtual address is the physical one.");
    KeptPages x = new KeptPages(128);
    x.region(0, 0x8000, 4);
    CHECK.due("write to the last four", x.write(2044, 4, 0x80000001, 3), 0);
    CHECK.due("entryOf(2044)", x.entryOf(2044), 0x80000001L);
    CHECK.due("read of the last four", x.read(2044, 4, 3), 0x80000001L);
    CHECK.due("read of four from 2045 on", x.read(2045, 4, 3), -100);
    CHECK.due("read of two from 2047 on", x.read(2047, 2, 3), -100);
    CHECK.due("read of one at 2047", x.read(2047, 1, 3), 0x80);
    CHECK.due("read of one at 2048", x.read(2048, 1, 3), -100);
    CHECK.due("where(2047)", x.where(2047, 3, true), 2047);
    CHECK.due("where(2048)", x.where(2048, 3, true), -100);
    CHECK.due("where(0xC000)", x.where(0xC000, 3, false), -100);
    nothingKept(x, "OFF");
    CHECK.due("failed()", x.failed(), -1);
  }

  private static void atFirstZero() {
    CHECK.sentence("a BASE and a LENGTH, numbers of 16 bits, at first 0");
    KeptPages x = new KeptPages(4);
    x.map(true);
    CHECK.due("A has no page 0", x.read(0, 1, 0), -2);
    CHECK.due("A has no page 1023", x.read(0x3FFF, 1, 0), -2);
    CHECK.due("B has page 0; base 0 is not of S", x.read(0x4000, 1, 0), -4);
    CHECK.due("B has page 1023", x.read(0x7FFF, 1, 0), -4);
    CHECK.due("S has no page 0", x.read(0x8000, 1, 0), -2);
    x.region(2, 0, 0xFFFF);
    CHECK.due("S's length 0xFFFF: page 0", x.read(0x8000, 1, 0), -1);
    CHECK.due("S's length 0xFFFF: page 1023, its entry behind memory", x.read(0xBFFF, 1, 0), -100);
    x.region(2, 0xFFFF, 1);
    CHECK.due("S's base 0xFFFF", x.read(0x8000, 1, 0), -100);
    x.region(1, 0, 0xFFFF);
    CHECK.due("B's length 0xFFFF: no page", x.read(0x7FFF, 1, 0), -2);
  }

  private static void insideOfALength() {
    CHECK.sentence("Pages of A and S are in it below their length, those of B from its length on.");
    int[] lengths = {0, 1, 2, 1022, 1023, 1024, 1025, 0x8000, 0xFFFF};
    int[] pages = {0, 1, 2, 1021, 1022, 1023};
    KeptPages x = new KeptPages(4);
    x.map(true);
    for (int length : lengths) {
      x.region(0, 0, length);
      x.region(1, 0, length);
      x.region(2, 64, length);
      for (int page : pages) {
        String of = " page " + page + ", length " + length;
        // Inside, the next fault is due: A and B have no table in S, S has its own behind memory.
        CHECK.due("A" + of, x.where(16 * page, 0, false), page < length ? -4 : -2);
        CHECK.due("B" + of, x.where(0x4000 + 16 * page + 15, 0, false), page >= length ? -4 : -2);
        CHECK.due("S" + of, x.where(0x8000 + 16 * page + 7, 0, false), page < length ? -100 : -2);
      }
    }
  }

  private static void addressOfAnEntry() {
    CHECK.sentence("at the virtual address base + 4 * page (16 bits of it), which must be of region S");
    int[] addresses = {0, 0x3FFF, 0x4000, 0x7FFF, 0x8000, 0x8004, 0xBFFF, 0xC000, 0xFFFF};
    int[] answers = {-4, -4, -4, -4, 16 * 3, 16 * 2, -100, -4, -4};
    int[] pages = {0, 1, 1023};
    KeptPages x = new KeptPages(4);
    x.entry(0, Entries.valid(ALL, 3));
    x.entry(48, Entries.valid(ALL, 3));
    x.entry(52, Entries.valid(ALL, 2));
    x.region(2, 0, 1024);
    x.map(true);
    for (int i = 0; i < addresses.length; i++) {
      for (int page : pages) {
        String of = " entry at " + addresses[i] + " for page " + page;
        x.region(0, addresses[i] - 4 * page, 1024);
        x.region(1, addresses[i] - 4 * page, 0);
        CHECK.due("A's" + of, x.where(16 * page, 0, false), answers[i]);
        CHECK.due("B's" + of, x.where(0x4000 + 16 * page, 0, false), answers[i]);
      }
    }
  }

  private static void outsideOrRegion3() {
    CHECK.sentence("a page outside of its length, or region 3: ACCESS with 1");
    KeptPages x = Entries.laidOut();
    int[] outside = {0x40, 0x3FFF, 0x4000, 0x7FBF, 0x8100, 0xBFFF, 0xC000, 0xFFFF};
    for (int at : outside) {
      CHECK.due("read(" + at + ", 1, 0)", x.read(at, 1, 0), -2);
      CHECK.due("failed()", x.failed(), at);
      CHECK.due("where(" + at + ", 0, false)", x.where(at, 0, false), -2);
      CHECK.due("write(" + at + ", 1, 0, 0)", x.write(at, 1, 0, 0), -6);
      CHECK.due("where(" + at + ", 0, true)", x.where(at, 0, true), -6);
    }
    nothingKept(x, "outside");
    int[] inside = {0x3F, 0x7FC0, 0x7FFF};
    for (int at : inside) {
      CHECK.due("read(" + at + ", 1, 0)", x.read(at, 1, 0), -1);
    }
    CHECK.due("read(0x80FF, 1, 0)", x.read(0x80FF, 1, 0), 0);
  }

  private static void tableOutsideOfS() {
    CHECK.sentence("must be of region S and inside of S's length, else ACCESS with 3");
    KeptPages x = Entries.laidOut();
    x.entry(0x80, Entries.valid(ALL, 14));
    x.entry(0xA0, Entries.valid(ALL, 15));
    CHECK.due("the kept table of A", x.read(0, 1, 0), 0);
    x.region(2, 0, 8);
    CHECK.due("A's table at S's length, read", x.read(0, 1, 0), -4);
    CHECK.due("A's table at S's length, write", x.write(9, 1, 0, 0), -8);
    CHECK.due("failed() is A's address", x.failed(), 9);
    nothingKept(x, "no table");
    x.region(2, 0, 9);
    CHECK.due("A's table below S's length", x.read(0, 1, 0), 0);
    CHECK.due("B's table behind S's length", x.write(0x7FC0, 1, 0, 0), -8);
    x.region(2, 0, 0);
    CHECK.due("S without a page", x.read(0, 1, 0), -4);
    x.region(0, 0x8080, 0);
    CHECK.due("outside of A goes ahead of it", x.read(0, 1, 0), -2);
  }

  private static void tableNotValid() {
    CHECK.sentence("that of S is read: not VALID: MISSING with 2; if it is, that is kept (no rights are asked)");
    for (int code = 0; code < 16; code++) {
      KeptPages x = Entries.laidOut();
      x.entry(0x80, Entries.valid(ALL, 14));
      x.entry(4 * 8, Entries.notValid(code, 8) | WRITTEN);
      CHECK.due("code " + code + ", not VALID, read", x.read(1, 1, 3), -13);
      CHECK.due("code " + code + ", not VALID, write", x.write(2, 1, 0, 3), -17);
      CHECK.due("failed()", x.failed(), 2);
      nothingKept(x, "not VALID");
      x.entry(4 * 8, Entries.valid(code, 8));
      CHECK.due("code " + code + ", VALID, write", x.write(2, 1, 0, 3), 0);
      CHECK.due("it is kept as it is", x.kept(8, 2), Entries.unsigned(Entries.valid(code, 8)));
      CHECK.due("it does not become WRITTEN", x.entryOf(4 * 8), Entries.unsigned(Entries.valid(code, 8)));
      x.entry(4 * 8, 0);
      CHECK.due("the kept one is taken", x.where(17, 0, false), -1);
    }
  }

  private static void rightsAndValid() {
    CHECK.sentence("a mode above what its code says: ACCESS with 0; not VALID: MISSING with 0; else it is kept");
    String[] codes = {
      "--", "--", "00", "-0", "33", "11", "01", "-1", "22", "12", "02", "-2", "23", "13", "03", "-3"
    };
    for (int code = 0; code < 16; code++) {
      int mayWrite = codes[code].charAt(0) == '-' ? -1 : codes[code].charAt(0) - '0';
      int mayRead = codes[code].charAt(1) == '-' ? -1 : codes[code].charAt(1) - '0';
      for (int mode = 0; mode < 4; mode++) {
        String of = "code " + code + ", mode " + mode;
        right(of + " VALID read", Entries.valid(code, 14), mode, false, mode <= mayRead ? 0 : -1);
        right(of + " VALID write", Entries.valid(code, 14), mode, true, mode <= mayWrite ? 0 : -5);
        right(of + " read", Entries.notValid(code, 14), mode, false, mode <= mayRead ? -11 : -1);
        right(of + " write", Entries.notValid(code, 14), mode, true, mode <= mayWrite ? -15 : -5);
      }
    }
  }

  private static void right(String of, int entry, int mode, boolean write, int answer) {
    KeptPages x = Entries.laidOut();
    x.entry(0x8C, entry);
    x.entry(0xAC, entry);
    x.entry(4 * 15, entry);
    int[] addresses = {0x3F, 0x7FFF, 0x80FF};
    int[] slots = {3, 7, 15};
    long marked = Entries.unsigned(write && answer == 0 ? entry | WRITTEN : entry);
    for (int i = 0; i < 3; i++) {
      int at = addresses[i];
      CHECK.due(of + " at " + at, write ? x.write(at, 1, 0, mode) : x.read(at, 1, mode), answer);
      CHECK.due(of + " kept at " + at, x.kept(slots[i], 2), answer == 0 ? marked : -1);
      CHECK.due(of + " failed() at " + at, x.failed(), answer == 0 ? -1 : at);
    }
    CHECK.due(of + " A's in memory", x.entryOf(0x8C), marked);
    CHECK.due(of + " B's in memory", x.entryOf(0xAC), marked);
    CHECK.due(of + " S's in memory", x.entryOf(4 * 15), marked);
  }

  private static void fourMoreForWriting() {
    CHECK.sentence("(4 more if it was for writing.)");
    KeptPages x = Entries.laidOut();
    x.entry(0x84, Entries.notValid(ALL, 14));
    x.entry(4 * 10, 0);
    int[] addresses = {0, 0x40, 0x10, 0x7FC0};
    int[] reading = {-1, -2, -11, -13};
    int[] writing = {-5, -6, -15, -17};
    for (int i = 0; i < addresses.length; i++) {
      both(x, addresses[i], reading[i], writing[i]);
    }
    x.region(0, 0, 4);
    both(x, 0, -4, -8);
  }

  private static void both(KeptPages x, int at, int reading, int writing) {
    for (int n = 1; n <= 4; n *= 2) {
      CHECK.due("read(" + at + ", " + n + ", 0)", x.read(at, n, 0), reading);
      CHECK.due("write(" + at + ", " + n + ", 0, 0)", x.write(at, n, 0, 0), writing);
    }
    CHECK.due("where(" + at + ", 0, false)", x.where(at, 0, false), reading);
    CHECK.due("where(" + at + ", 0, true)", x.where(at, 0, true), writing);
  }

  private static void sixteenAreKept() {
    CHECK.sentence("16 entries are KEPT, 8 of A and B, 8 of S, each for pages with one rest modulo 8");
    KeptPages x = full();
    for (int i = 0; i < 8; i++) {
      CHECK.due("kept(" + i + ", 1)", x.kept(i, 1), 16 * i);
      CHECK.due("kept(8 + " + i + ", 1)", x.kept(8 + i, 1), 0x8080 + 16 * i);
    }
    x.read(16 * 8, 1, 0);
    CHECK.due("A's page 8 is in the stead of page 0", x.kept(0, 1), 16 * 8);
    x.read(0x4000 + 16 * 15, 1, 0);
    CHECK.due("B's page 15 is in the stead of A's 7", x.kept(7, 1), 0x4000 + 16 * 15);
    x.read(0x8000 + 16, 1, 0);
    CHECK.due("S's page 1 is in the stead of page 9", x.kept(9, 1), 0x8010);
    for (int i = 1; i < 7; i++) {
      CHECK.due("the others stay: kept(" + i + ", 1)", x.kept(i, 1), 16 * i);
    }
    for (int i = 10; i < 16; i++) {
      CHECK.due("the others stay: kept(" + i + ", 1)", x.kept(i, 1), 0x8000 + 16 * i);
    }
  }

  /** Kept are A's pages 0 to 7 and S's 8 to 15; the tables of A and B are one, at physical 0x80. */
  private static KeptPages full() {
    KeptPages x = Entries.laidOut();
    x.region(0, 0x8080, 16);
    x.region(1, 0x8080, 0);
    for (int page = 0; page < 16; page++) {
      x.entry(0x80 + 4 * page, Entries.valid(ALL, 14));
    }
    for (int page = 0; page < 8; page++) {
      x.read(16 * page, 1, 0);
      x.read(0x8080 + 16 * page, 1, 0);
    }
    return x;
  }

  private static void oneCountsIfLike() {
    CHECK.sentence("one counts if its region and page are like");
    KeptPages x = full();
    // Memory now says another page than what is kept.
    for (int page = 0; page < 16; page++) {
      x.entry(0x80 + 4 * page, Entries.valid(ALL, 13));
    }
    CHECK.due("A's page 1", x.where(16, 0, false), 14 * 16);
    CHECK.due("A's page 9, with the same rest", x.where(16 * 9, 0, false), 13 * 16);
    CHECK.due("A's page 513, with the same rest", x.where(16 * 513, 0, false), -2);
    CHECK.due("B's page 1", x.where(0x4010, 0, false), 13 * 16);
    x.entry(4 * 15, Entries.valid(ALL, 13));
    CHECK.due("S's page 15", x.where(0x80F0, 0, false), 15 * 16);
    CHECK.due("S's page 7", x.where(0x8070, 0, false), 7 * 16);
    CHECK.due("S's page 1023", x.where(0xBFF0, 0, false), -2);
    CHECK.due("page 15 of region 3", x.where(0xC0F0, 0, false), -2);
  }

  private static void lengthIsNotAskedOfAKeptOne() {
    CHECK.sentence("Without one: a page outside of its length");
    KeptPages x = full();
    CHECK.due("region() of A", x.region(0, 0x8080, 7), true);
    CHECK.due("what was kept is gone: outside is outside", x.read(16 * 7, 1, 0), -2);
    CHECK.due("inside is inside", x.read(16 * 6, 1, 0), 0);
  }

  private static void becomesWritten() {
    CHECK.sentence("if WRITTEN is 0 in the kept one it becomes 1 in that and, alone, in memory, where it was read");
    int[] entries = {0x80, 4 * 15};
    int[] addresses = {5, 0x80F5};
    int[] slots = {0, 15};
    for (int i = 0; i < 2; i++) {
      KeptPages x = Entries.laidOut();
      int at = entries[i];
      int was = Entries.valid(ALL, 14) | 0x03FFF000;
      x.entry(at, was);
      x.read(addresses[i], 1, 0);
      x.entry(at, 0);
      CHECK.due("write", x.write(addresses[i], 1, 0, 0), 0);
      CHECK.due("the bit alone", x.entryOf(at), WRITTEN);
      CHECK.due("the kept one", x.kept(slots[i], 2), Entries.unsigned(was | WRITTEN));
      x.entry(at, 0);
      CHECK.due("write again", x.write(addresses[i], 1, 0, 0), 0);
      CHECK.due("1 in the kept one: memory is left", x.entryOf(at), 0);
      x.entry(at, was | WRITTEN);
      x.drop(addresses[i]);
      CHECK.due("write to one that is WRITTEN", x.write(addresses[i], 1, 0, 0), 0);
      CHECK.due("it stays", x.entryOf(at), Entries.unsigned(was | WRITTEN));
      x.entry(at, was);
      x.drop(addresses[i]);
      x.read(addresses[i], 1, 0);
      x.entry(at, -1);
      CHECK.due("write where memory is WRITTEN already", x.write(addresses[i], 1, 0, 0), 0);
      CHECK.due("memory stays", x.entryOf(at), 0xFFFFFFFFL);
      CHECK.due("the kept one changes", x.kept(slots[i], 2), Entries.unsigned(was | WRITTEN));
    }
  }

  private static void beyondMemory() {
    CHECK.sentence("A physical address beyond memory is BEYOND.");
    int[] sizes = {4, 5, 32, 127, 128};
    for (int size : sizes) {
      KeptPages x = new KeptPages(size);
      String of = " of " + size + " pages";
      x.entry(0, Entries.valid(ALL, size - 1));
      x.entry(4, Entries.valid(ALL, size));
      x.entry(8, Entries.valid(ALL, 0xFFF));
      x.region(2, 0, 4);
      x.map(true);
      CHECK.due("the last page" + of, x.where(0x800F, 3, true), 16 * size - 1);
      CHECK.due("the page behind" + of, x.where(0x8010, 3, true), -100);
      CHECK.due("read of the page behind" + of, x.read(0x8010, 1, 0), -100);
      CHECK.due("write to page 4095" + of, x.write(0x802F, 1, 0, 0), -100);
      CHECK.due("over the last page's end" + of, x.write(0x800E, 4, -1, 0), -100);
      CHECK.due("nothing is written" + of, x.entryOf(16 * size - 4), 0);
      CHECK.due("failed()" + of, x.failed(), -1);
      tablesBeyond(x, size, of);
    }
  }

  private static void tablesBeyond(KeptPages x, int size, String of) {
    int last = 16 * size - 4;
    x.entry(last, Entries.valid(ALL, 1));
    for (int more = 0; more < 5; more++) {
      x.region(2, last + more, 1);
      CHECK.due("S's entry, " + more + " behind the last place" + of, x.read(0x8000, 1, 0), more == 0 ? 0 : -100);
    }
    x.entry(0, Entries.valid(ALL, size - 1));
    x.region(2, 0, 2);
    for (int more = 0; more < 4; more++) {
      x.region(0, 0x800C + more, 1);
      CHECK.due("A's entry, " + more + " behind the last place" + of, x.read(0, 1, 0), more == 0 ? 0 : -100);
      CHECK.due("its table is kept" + of, x.kept(8, 0), 1);
      CHECK.due("A's is kept" + of, x.kept(0, 0), more == 0 ? 1 : 0);
    }
    x.region(0, 0x8010, 1);
    CHECK.due("A's entry in the page behind" + of, x.write(0, 1, 0, 0), -100);
    x.region(2, 0xFFF0, 2);
    CHECK.due("S's entry for A's table" + of, x.write(0, 1, 0, 0), -100);
    CHECK.due("failed() again" + of, x.failed(), -1);
  }

  private static void entryLiesPhysically() {
    CHECK.sentence("An entry's four bytes lie behind one another physically.");
    for (int place = 12; place < 16; place++) {
      KeptPages x = Entries.laidOut();
      x.region(0, 0x8080 + place, 1);
      // S's next page is another one, and not VALID: neither may be looked at.
      x.entry(4 * 9, Entries.notValid(0, 3));
      x.entry(0x80 + place, Entries.valid(ALL, 14));
      CHECK.due("at place " + place, x.where(3, 3, true), 14 * 16 + 3);
      CHECK.due("write", x.write(3, 1, 5, 3), 0);
      CHECK.due("it is marked there", x.entryOf(0x80 + place), Entries.unsigned(Entries.valid(ALL, 14) | WRITTEN));
      CHECK.due("S's next page is not kept", x.kept(9, 0), 0);
      x.region(2, 0, 9);
      CHECK.due("S's length asks for the first byte alone", x.read(3, 1, 0), 5);
    }
  }

  private static void pagesOfAnAccess() {
    CHECK.sentence("An ACCESS of n bytes: all their pages are translated");
    for (int n = 1; n <= 4; n *= 2) {
      for (int place = 10; place < 16; place++) {
        KeptPages x = Entries.laidOut();
        x.entry(0x80, Entries.valid(ALL, 14));
        x.entry(0x84, Entries.valid(ALL, 12));
        boolean two = place + n > 16;
        CHECK.due("write(" + place + ", " + n + ", ..)", x.write(place, n, 0x04030201, 0), 0);
        CHECK.due("the second is kept", x.kept(1, 0), two ? 1 : 0);
        CHECK.due("the second is WRITTEN", x.entryOf(0x84) & WRITTEN, two ? WRITTEN : 0);
        for (int i = 0; i < 8; i++) {
          int at = place + i < 16 ? 14 * 16 + place + i : 12 * 16 + place + i - 16;
          CHECK.due("byte " + i + " of " + n, x.entryOf(at) & 0xFF, i < n ? i + 1 : 0);
        }
        x.entry(0x84, 0);
        x.drop(16);
        CHECK.due("read(" + place + ", " + n + ", 0)", x.read(place, n, 0), two ? -1 : 0x04030201 & (1L << 8 * n) - 1);
      }
    }
  }

  private static void firstPageFirst() {
    CHECK.sentence("from the first byte's on (the next one's first address is looked at then)");
    KeptPages x = Entries.laidOut();
    x.entry(0x80, Entries.notValid(ALL, 14));
    CHECK.due("both fail, read", x.read(14, 4, 0), -11);
    CHECK.due("failed() is the first byte", x.failed(), 14);
    CHECK.due("both fail, write", x.write(15, 4, 0, 0), -15);
    CHECK.due("failed() is the first byte", x.failed(), 15);
    x.entry(0x80, Entries.valid(ALL, 14));
    for (int place = 13; place < 16; place++) {
      x.read(1, 1, 0);
      CHECK.due("the second fails", x.read(place, 4, 0), -1);
      CHECK.due("failed() is the second's first address", x.failed(), 16);
    }
    x.entry(0x8C, Entries.valid(ALL, 14));
    CHECK.due("the next one is outside", x.write(0x3D, 4, 0, 0), -6);
    CHECK.due("failed()", x.failed(), 0x40);
    CHECK.due("from S to outside", x.read(0x80FF, 2, 0), -2);
    CHECK.due("failed()", x.failed(), 0x8100);
    nextRegion();
  }

  /** From the last page of each region into the first of the next. */
  private static void nextRegion() {
    KeptPages x = Entries.laidOut();
    x.entry(0xA0 + 12, Entries.valid(ALL, 14));
    x.put(14 * 16 + 15, 0x77);
    CHECK.due("from B to S", x.read(0x7FFF, 2, 0), Entries.valid(ALL, 0) & 0xFF | 0x77);
    x.region(2, 0, 16);
    x.entry(0, Entries.valid(2, 0));
    CHECK.due("from B to S, where no right is", x.read(0x7FFF, 2, 1), -1);
    CHECK.due("failed()", x.failed(), 0x8000);
    x.region(0, 0x8080 - 4 * 1023, 1024);
    x.entry(0x80, Entries.valid(ALL, 14));
    CHECK.due("from A to B, outside", x.read(0x3FFD, 4, 0), -2);
    CHECK.due("failed()", x.failed(), 0x4000);
    CHECK.due("kept of A", x.kept(7, 1), 0x3FF0);
  }

  private static void faultsGoAheadOfBeyond() {
    CHECK.sentence("then all bytes must be in memory, the lowest first");
    KeptPages x = Entries.laidOut();
    x.entry(0x80, Entries.valid(ALL, 16));
    x.entry(0x84, Entries.notValid(ALL, 14));
    CHECK.due("the first is BEYOND, the second MISSING", x.read(14, 4, 0), -11);
    CHECK.due("failed()", x.failed(), 16);
    x.entry(0x84, Entries.valid(ALL, 14));
    CHECK.due("the first alone is BEYOND", x.read(14, 4, 0), -100);
    CHECK.due("the second is kept", x.kept(1, 0), 1);
    x.entry(0x80, Entries.valid(ALL, 14));
    x.entry(0x84, Entries.valid(ALL, 16));
    x.map(true);
    CHECK.due("the second alone is BEYOND", x.read(14, 4, 0), -100);
    CHECK.due("it is not asked for", x.read(12, 4, 0), 0);
    x.entry(4 * 8, Entries.valid(ALL, 16));
    x.region(2, 0, 16);
    CHECK.due("the first's entry is BEYOND: the second is not looked at", x.read(14, 4, 0), -100);
    CHECK.due("failed() stays", x.failed(), 16);
  }

  private static void onlyThenSomethingIsWritten() {
    CHECK.sentence("only then something is read or written");
    int[] seconds = {0, Entries.valid(15, 12), Entries.notValid(ALL, 12), Entries.valid(ALL, 16)};
    int[] answers = {-5, -5, -15, -100};
    for (int i = 0; i < seconds.length; i++) {
      KeptPages x = Entries.laidOut();
      x.entry(0x80, Entries.valid(ALL, 14));
      x.entry(0x84, seconds[i]);
      CHECK.due("write(13, 4, ..), second " + i, x.write(13, 4, -1, 0), answers[i]);
      CHECK.due("write(15, 2, ..), second " + i, x.write(15, 2, -1, 0), answers[i]);
      CHECK.due("the first's bytes", x.entryOf(14 * 16 + 12), 0);
      CHECK.due("the second's bytes", x.entryOf(12 * 16), 0);
    }
    KeptPages x = Entries.laidOut();
    x.entry(0x80, Entries.valid(ALL, 16));
    x.entry(0x84, Entries.valid(ALL, 12));
    CHECK.due("the first BEYOND", x.write(13, 4, -1, 0), -100);
    CHECK.due("the second's bytes", x.entryOf(12 * 16), 0);
  }

  private static void whatWasKeptStays() {
    CHECK.sentence("What was kept or became WRITTEN ahead of a fault stays.");
    KeptPages x = Entries.laidOut();
    x.entry(0x80, Entries.valid(ALL, 14));
    x.entry(4 * 9, 0);
    x.region(0, 0x8080, 8);
    CHECK.due("the second's entry has no right", x.write(15, 2, -1, 0), -5);
    firstStays(x, 14);
    x.entry(0x8C, Entries.valid(ALL, 14));
    CHECK.due("the second has no table", x.write(0x3F, 2, -1, 0), -17);
    CHECK.due("the first stays kept", x.kept(3, 2), Entries.unsigned(Entries.valid(ALL, 14) | WRITTEN));
    CHECK.due("the second's table is not", x.kept(9, 0), 0);
    CHECK.due("failed()", x.failed(), 0x40);
    x = Entries.laidOut();
    x.entry(0x80, Entries.valid(ALL, 16));
    CHECK.due("BEYOND", x.write(0, 1, -1, 0), -100);
    firstStays(x, 16);
    x = Entries.laidOut();
    x.entry(0x80, Entries.valid(ALL, 14));
    x.entry(0x84, Entries.valid(ALL, 16));
    CHECK.due("the second BEYOND", x.write(15, 2, -1, 0), -100);
    firstStays(x, 14);
    CHECK.due("the second stays, too", x.kept(1, 2), Entries.unsigned(Entries.valid(ALL, 16) | WRITTEN));
    CHECK.due("in memory, too", x.entryOf(0x84), Entries.unsigned(Entries.valid(ALL, 16) | WRITTEN));
  }

  private static void firstStays(KeptPages x, int page) {
    CHECK.due("A's page 0 stays kept", x.kept(0, 1), 0);
    CHECK.due("and WRITTEN", x.kept(0, 2), Entries.unsigned(Entries.valid(ALL, page) | WRITTEN));
    CHECK.due("in memory, too", x.entryOf(0x80), Entries.unsigned(Entries.valid(ALL, page) | WRITTEN));
    CHECK.due("its table stays kept", x.kept(8, 1), 0x8080);
  }

  private static void memoryIsTheClassesOwn() {
    CHECK.sentence("All memory is the class's own.");
    KeptPages x = Entries.laidOut();
    KeptPages y = Entries.laidOut();
    x.entry(0x80, Entries.valid(ALL, 14));
    CHECK.due("one object is written to", x.write(5, 4, -1, 0), 0);
    CHECK.due("and fails", x.read(0xC000, 1, 0), -2);
    nothingKept(y, "the other");
    CHECK.due("the other's entry", y.entryOf(0x80), 0);
    CHECK.due("the other's bytes", y.entryOf(14 * 16 + 5), 0);
    CHECK.due("the other's failed()", y.failed(), -1);
    y.region(0, 0, 0);
    y.region(2, 0, 0);
    y.map(false);
    CHECK.due("the one has what was kept", x.kept(0, 1), 0);
    CHECK.due("the one reads on", x.read(5, 4, 0), 0xFFFFFFFFL);
    CHECK.due("the one's regions stay", x.read(0x80E5, 4, 0), 0xFFFFFFFFL);
  }

  private static void fiveHundredAndTwelveCalls() {
    CHECK.sentence("An object is used for at most 512 calls after it has been made");
    KeptPages x = new KeptPages(128);
    for (int i = 0; i < 255; i++) {
      CHECK.due("write " + i, x.write(4 * i, 4, ~i, 0), 0);
      CHECK.due("read " + i, x.read(4 * i, 4, 0), Entries.unsigned(~i));
    }
    CHECK.due("call 511", x.entryOf(0), 0xFFFFFFFFL);
    CHECK.due("call 512", x.entryOf(4 * 254), Entries.unsigned(~254));
  }

  private static void nothingKept(KeptPages x, String when) {
    for (int i = 0; i < 16; i++) {
      CHECK.due(when + ": kept(" + i + ", 0)", x.kept(i, 0), 0);
    }
  }
}
