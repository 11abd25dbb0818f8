/** Promises 8, 9 and 13: read, write, failed; and how an address is translated. */
public final class AccessTest {
  private static final Check CHECK = new Check();
  private static final int ALL = Entries.ALL_MAY;

  public static void main(String[] args) {
    mapOff();
    wrongCounts();
    wholeNumbers();
    rightsOfAllCodes();
    rightsGoBeforeValid();
    tableFaults();
    entriesBeyond();
    bytesBeyond();
    twoPages();
    acrossRegions();
    keptInsteadOfMemory();
    written();
    slotsAreShared();
    entryAcrossPages();
    failed();
    CHECK.end();
  }

  private static void mapOff() {
    KeptPages x = new KeptPages(4);
    CHECK.due("OFF write(14, 4, ..)", x.write(14, 4, 0x84838281, 3), 0);
    CHECK.due("OFF entryOf(14)", x.entryOf(14), 0x84838281L);
    CHECK.due("OFF read(14, 4)", x.read(14, 4, 3), 0x84838281L);
    CHECK.due("OFF read(0x5000E, 2)", x.read(0x5000E, 2, 3), 0x8281);
    CHECK.due("OFF read(60, 4)", x.read(60, 4, 0), 0);
    CHECK.due("OFF read(61, 4)", x.read(61, 4, 0), -100);
    CHECK.due("OFF write(63, 2)", x.write(63, 2, -1, 0), -100);
    CHECK.due("OFF nothing was written", x.read(63, 1, 0), 0);
    CHECK.due("OFF read(0xFFFF, 2)", x.read(0xFFFF, 2, 0), -100);
    CHECK.due("OFF read(-1, 1)", x.read(-1, 1, 0), -100);
    CHECK.due("OFF failed()", x.failed(), -1);
    CHECK.due("OFF kept(0, 0)", x.kept(0, 0), 0);
  }

  private static void wrongCounts() {
    KeptPages x = Entries.laidOut();
    int[] wrong = {0, 3, 5, 8, -1, -4, Integer.MAX_VALUE, Integer.MIN_VALUE};
    for (int n : wrong) {
      CHECK.due("read(.., " + n + ", ..)", x.read(0x8000, n, 0), -101);
      CHECK.due("write(.., " + n + ", ..)", x.write(0x8000, n, 0, 0), -101);
      CHECK.due("read of region 3 of " + n, x.read(0xC000, n, 0), -101);
    }
    CHECK.due("nothing is kept", x.kept(8, 0), 0);
    CHECK.due("nothing failed", x.failed(), -1);
    CHECK.due("nothing is written", x.entryOf(0), Entries.unsigned(Entries.valid(ALL, 0)));
  }

  private static void wholeNumbers() {
    KeptPages x = Entries.laidOut();
    int at = 0x80F0;
    CHECK.due("write 4", x.write(at, 4, 0xF4F3F2F1, 3), 0);
    CHECK.due("read 4 has no sign", x.read(at, 4, 3), 0xF4F3F2F1L);
    CHECK.due("read 2 has no sign", x.read(at + 2, 2, 3), 0xF4F3);
    CHECK.due("read 1 has no sign", x.read(at, 1, 3), 0xF1);
    CHECK.due("write 2", x.write(at + 1, 2, 0xABCD1234, 3), 0);
    CHECK.due("write 1", x.write(at + 3, 1, 0x1FF, 3), 0);
    CHECK.due("what was written", x.entryOf(0xF0), 0xFF1234F1L);
    CHECK.due("address of 16 bits", x.read(0xABC00000 | at, 2, 3), 0x34F1);
    CHECK.due("write to an address of 16 bits", x.write(0xABC00000 | at, 1, 7, 3), 0);
    CHECK.due("is there", x.read(at, 1, 3), 7);
  }

  private static void rightsOfAllCodes() {
    int[] mayWrite = {-1, -1, 0, -1, 3, 1, 0, -1, 2, 1, 0, -1, 2, 1, 0, -1};
    int[] mayRead = {-1, -1, 0, 0, 3, 1, 1, 1, 2, 2, 2, 2, 3, 3, 3, 3};
    for (int code = 0; code < 16; code++) {
      KeptPages x = Entries.laidOut();
      x.entry(0x80, Entries.valid(code, 14));
      x.entry(4 * 15, Entries.valid(code, 15));
      for (int mode = 0; mode < 4; mode++) {
        String of = "code " + code + " mode " + mode;
        CHECK.due(of + " read A", x.read(0, 1, mode), mode <= mayRead[code] ? 0 : -1);
        CHECK.due(of + " write A", x.write(0, 1, 0, mode), mode <= mayWrite[code] ? 0 : -5);
        CHECK.due(of + " read S", x.read(0x80F0, 1, mode - 4), mode <= mayRead[code] ? 0 : -1);
        CHECK.due(of + " write S", x.write(0x80F0, 1, 0, mode + 8), mode <= mayWrite[code] ? 0 : -5);
        CHECK.due(of + " may read", x.may(0, mode, false), mode <= mayRead[code] ? 1 : 0);
        CHECK.due(of + " may write", x.may(0, mode | 64, true), mode <= mayWrite[code] ? 1 : 0);
      }
      CHECK.due("code " + code + " kept A", x.kept(0, 0), code > 1 ? 1 : 0);
      CHECK.due("code " + code + " kept S", x.kept(15, 0), code > 1 ? 1 : 0);
      CHECK.due("code " + code + " kept table, whatever follows", x.kept(8, 0), 1);
    }
  }

  private static void rightsGoBeforeValid() {
    KeptPages x = Entries.laidOut();
    x.entry(0x80, Entries.notValid(9, 14));
    CHECK.due("no right, not VALID, read", x.read(0, 1, 3), -1);
    CHECK.due("no right, not VALID, write", x.write(0, 1, 0, 2), -5);
    CHECK.due("right, not VALID, read", x.read(0, 1, 2), -11);
    CHECK.due("right, not VALID, write", x.write(0, 1, 0, 1), -15);
    CHECK.due("neither is kept", x.kept(0, 0), 0);
    CHECK.due("neither becomes WRITTEN", x.entryOf(0x80), Entries.unsigned(Entries.notValid(9, 14)));
    CHECK.due("the table is kept", x.kept(8, 1), 0x8080);
    x.entry(4 * 15, Entries.notValid(3, 15));
    CHECK.due("S no right, not VALID", x.read(0x80F0, 1, 1), -1);
    CHECK.due("S right, not VALID", x.read(0x80F0, 1, 0), -11);
    CHECK.due("S is not kept", x.kept(15, 0), 0);
  }

  private static void tableFaults() {
    KeptPages x = Entries.laidOut();
    int[] noTable = {0x0080, 0x4080, 0xC080, 0x8100, 0xBFFC};
    for (int base : noTable) {
      x.region(0, base, 4);
      CHECK.due("table at " + base + ", read", x.read(0, 1, 0), -4);
      CHECK.due("table at " + base + ", write", x.write(0, 1, 0, 0), -8);
    }
    x.region(0, 0xFFFC, 0x3FF);
    CHECK.due("a table's address wraps into A", x.read(16, 1, 0), -4);
    x.region(0, 0x7FFC, 4);
    CHECK.due("a table that begins ahead of S, page 0", x.read(0, 1, 0), -4);
    CHECK.due("a table that begins ahead of S, page 1", x.read(16, 1, 0), 0x00);
    x.region(0, 0x8080, 4);
    x.entry(4 * 8, Entries.notValid(ALL, 8));
    CHECK.due("table not VALID, read", x.read(0, 1, 0), -13);
    CHECK.due("table not VALID, write", x.write(5, 1, 0, 0), -17);
    CHECK.due("failed() is the address that was asked for", x.failed(), 5);
    CHECK.due("table not VALID is not kept", x.kept(8, 0), 1);
    CHECK.due("but S's page 0 of before", x.kept(8, 1), 0x8000);
    x.entry(4 * 8, Entries.valid(0, 8));
    x.entry(0x80, Entries.valid(ALL, 14));
    CHECK.due("no rights are asked of a table", x.where(3, 3, true), 14 * 16 + 3);
    CHECK.due("nor in a write", x.write(3, 1, 9, 3), 0);
    CHECK.due("the table does not become WRITTEN", x.entryOf(4 * 8), Entries.unsigned(Entries.valid(0, 8)));
    CHECK.due("nor as it is kept", x.kept(8, 2), Entries.unsigned(Entries.valid(0, 8)));
    CHECK.due("the kept table gives no right by itself", x.read(0x8080, 1, 0), -1);
  }

  private static void entriesBeyond() {
    KeptPages x = Entries.laidOut();
    x.region(2, 16 * 16 - 7, 4);
    CHECK.due("S's entry in the last bytes", x.read(0x8000, 1, 0), -1);
    CHECK.due("S's entry half behind", x.read(0x8010, 1, 0), -100);
    CHECK.due("S's entry behind", x.write(0x8020, 1, 0, 0), -100);
    x.region(0, 0x8010, 4);
    CHECK.due("a table's entry half behind", x.read(0, 1, 0), -100);
    x.region(2, 0xFFFC, 4);
    CHECK.due("S's entries are physical and do not wrap", x.read(0x8010, 1, 0), -100);
    CHECK.due("nor do they where a table is looked for", x.read(0, 1, 0), -100);
    CHECK.due("BEYOND leaves failed()", x.failed(), 0x8000);
    x.region(2, 0, 16);
    x.region(0, 0x8080, 4);
    x.entry(4 * 8, Entries.valid(ALL, 16));
    CHECK.due("A's entry behind", x.read(0, 1, 0), -100);
    CHECK.due("its table is kept", x.kept(8, 1), 0x8080);
    CHECK.due("BEYOND leaves failed() again", x.failed(), 0x8000);
    x.entry(4 * 8, Entries.valid(ALL, 15));
    x.region(2, 0, 16);
    x.region(0, 0x808D, 4);
    CHECK.due("A's entry half behind", x.write(0, 1, 0, 0), -100);
  }

  private static void bytesBeyond() {
    KeptPages x = Entries.laidOut();
    x.entry(0x80, Entries.valid(ALL, 16));
    x.entry(0x84, Entries.valid(ALL, 0xFFF));
    CHECK.due("read of a page behind", x.read(0, 1, 0), -100);
    CHECK.due("it is kept", x.kept(0, 0), 1);
    CHECK.due("read has not made it WRITTEN", x.kept(0, 2), Entries.unsigned(Entries.valid(ALL, 16)));
    CHECK.due("write to a page behind", x.write(0, 1, 0, 0), -100);
    CHECK.due("it is WRITTEN", x.entryOf(0x80), Entries.unsigned(Entries.valid(ALL, 16) | Entries.WRITTEN));
    CHECK.due("the highest page", x.read(16, 4, 0), -100);
    CHECK.due("failed()", x.failed(), -1);
    x.entry(0x8C, Entries.valid(ALL, 0x80E));
    CHECK.due("a page's number has all 12 bits", x.read(48, 1, 0), -100);
    x.entry(0x8C, 0);
    x.drop(48);
    x.entry(0x88, Entries.valid(ALL, 14));
    CHECK.due("first page behind", x.write(16 + 14, 4, -1, 0), -100);
    CHECK.due("nothing is written to the second", x.entryOf(14 * 16), 0);
    CHECK.due("the second was kept", x.kept(2, 1), 32);
    x.entry(0x88, 0);
    x.drop(32);
    CHECK.due("first page behind, the second's fault goes ahead", x.write(16 + 14, 4, -1, 0), -5);
    CHECK.due("failed() is the second", x.failed(), 32);
    x.entry(0x80, Entries.valid(ALL, 14));
    x.drop(0);
    CHECK.due("second page behind", x.write(14, 4, -1, 0), -100);
    CHECK.due("nothing is written to the first", x.entryOf(14 * 16 + 12), 0);
  }

  private static void twoPages() {
    KeptPages x = Entries.laidOut();
    x.entry(0x80, Entries.valid(ALL, 14));
    x.entry(0x84, Entries.valid(ALL, 12));
    CHECK.due("write over two pages", x.write(15, 4, 0x44332211, 0), 0);
    CHECK.due("end of the first", x.read(0x80EF, 1, 0), 0x11);
    CHECK.due("start of the second", x.read(0x80C0, 4, 0), 0x00443322);
    CHECK.due("read over two pages", x.read(15, 4, 0), 0x44332211);
    CHECK.due("read of 2 over two pages", x.read(15, 2, 0), 0x2211);
    CHECK.due("both became WRITTEN: 0", x.entryOf(0x80), Entries.unsigned(Entries.valid(ALL, 14) | Entries.WRITTEN));
    CHECK.due("both became WRITTEN: 1", x.entryOf(0x84), Entries.unsigned(Entries.valid(ALL, 12) | Entries.WRITTEN));
    x.entry(0x80, Entries.valid(ALL, 14));
    x.entry(0x84, Entries.valid(15, 12));
    x.map(true);
    CHECK.due("second page may not be written", x.write(13, 4, 0, 0), -5);
    CHECK.due("failed() is the second page", x.failed(), 16);
    CHECK.due("the first stays kept and WRITTEN", x.kept(0, 2), Entries.unsigned(Entries.valid(ALL, 14) | Entries.WRITTEN));
    CHECK.due("and in memory", x.entryOf(0x80), Entries.unsigned(Entries.valid(ALL, 14) | Entries.WRITTEN));
    CHECK.due("the second is not kept", x.kept(1, 0), 0);
    CHECK.due("no byte is written", x.read(15, 1, 0), 0x11);
    CHECK.due("up to the page's end all is well", x.write(12, 4, 0, 0), 0);
    x.entry(0x80, Entries.valid(0, 14));
    x.map(true);
    CHECK.due("first page fails", x.read(14, 4, 0), -1);
    CHECK.due("failed() is the byte asked for", x.failed(), 14);
    CHECK.due("the second was not looked at", x.kept(1, 0), 0);
  }

  private static void acrossRegions() {
    KeptPages x = Entries.laidOut();
    x.entry(0xA0 + 12, Entries.valid(ALL, 14));
    CHECK.due("from B into S", x.write(0x7FFE, 4, 0x04030201, 0), 0);
    CHECK.due("end of B", x.entryOf(14 * 16 + 12), 0x02010000L);
    CHECK.due("start of S", x.entryOf(0), 0xA4000403L);
    x.region(2, 0, 1024);
    x.region(0, 0x8080, 1024);
    x.put(0, 0);
    x.put(1, 0);
    CHECK.due("S ends at region 3 (its last entry is behind memory)", x.read(0xBFFE, 4, 0), -100);
    CHECK.due("from region 3", x.read(0xFFFE, 4, 0), -2);
    CHECK.due("failed() in region 3", x.failed(), 0xFFFE);
    CHECK.due("from region 3 with more bits", x.write(-1, 4, 0, 0), -6);
    CHECK.due("failed() has 16 bits", x.failed(), 0xFFFF);

    KeptPages y = new KeptPages(128);
    y.region(2, 2048 - 4096, 1024);
    CHECK.due("S's base of 16 bits is far behind", mapped(y).read(0xBFFE, 4, 0), -100);

    KeptPages z = new KeptPages(128);
    z.entry(0, Entries.valid(ALL, 127));
    z.region(2, 0, 1);
    z.region(0, 0x8000 - 4 * 1016, 1024);
    z.region(1, 0x8004, 0);
    z.map(true);
    CHECK.due("from A into B: A's table", z.read(0x3FFF, 2, 0), -4);
    z.region(0, 0x8000 - 4 * 1023, 1024);
    z.entry(127 * 16, Entries.valid(ALL, 5));
    z.entry(127 * 16 + 4, Entries.valid(ALL, 6));
    z.put(5 * 16 + 15, 0x34);
    z.put(6 * 16, 0x12);
    CHECK.due("from A into B", z.read(0x3FFF, 2, 0), 0x1234);
    z.drop(0x4000);
    z.entry(127 * 16 + 4, 0);
    CHECK.due("from A into B, which fails", z.read(0x3FFE, 4, 0), -1);
    CHECK.due("failed() is B's first", z.failed(), 0x4000);
  }

  private static KeptPages mapped(KeptPages x) {
    x.map(true);
    return x;
  }

  private static void keptInsteadOfMemory() {
    KeptPages x = Entries.laidOut();
    x.entry(0x80, Entries.valid(ALL, 14));
    x.put(14 * 16, 0x55);
    x.put(12 * 16, 0x66);
    CHECK.due("read", x.read(0, 1, 0), 0x55);
    x.entry(0x80, Entries.valid(ALL, 12));
    CHECK.due("the kept entry goes on", x.read(0, 1, 0), 0x55);
    CHECK.due("where() too", x.where(0, 0, false), 14 * 16);
    x.entry(0x80, 0);
    CHECK.due("may() too", x.may(0, 3, true), 1);
    x.entry(0x80, Entries.valid(ALL, 12));
    x.drop(0);
    CHECK.due("after drop() memory counts", x.read(0, 1, 0), 0x66);
    x.entry(4 * 8, 0);
    x.drop(0);
    CHECK.due("the kept table goes on", x.read(0, 1, 0), 0x66);
    x.drop(0);
    x.drop(0x8080);
    CHECK.due("after drop() of the table memory counts", x.read(0, 1, 0), -13);
  }

  private static void written() {
    KeptPages x = Entries.laidOut();
    int more = Entries.valid(ALL, 14) | 0x03FFF000;
    x.entry(0x80, more);
    CHECK.due("read", x.read(0, 1, 0), 0);
    CHECK.due("a read does not mark", x.entryOf(0x80), Entries.unsigned(more));
    CHECK.due("kept as it is", x.kept(0, 2), Entries.unsigned(more));
    x.entry(0x80, 0x01020304);
    CHECK.due("write", x.write(0, 1, 1, 0), 0);
    CHECK.due("the bit alone is set in memory", x.entryOf(0x80), 0x05020304L);
    CHECK.due("and in the kept one", x.kept(0, 2), Entries.unsigned(more | Entries.WRITTEN));
    x.entry(0x80, 0x01020304);
    CHECK.due("write again", x.write(0, 1, 1, 0), 0);
    CHECK.due("a marked one marks no more", x.entryOf(0x80), 0x01020304L);

    x.entry(0x84, Entries.valid(ALL, 14));
    CHECK.due("read of page 1", x.read(16, 1, 0), 1);
    x.entry(4 * 8, Entries.valid(ALL, 12));
    x.drop(0x8080);
    CHECK.due("write to page 1 with another table", x.write(16, 1, 2, 0), 0);
    CHECK.due("the mark is where it was read", x.entryOf(0x84), Entries.unsigned(Entries.valid(ALL, 14) | Entries.WRITTEN));
    CHECK.due("not in the new table", x.entryOf(0xC4), 0);

    CHECK.due("write to S", x.write(0x80F1, 2, 3, 0), 0);
    CHECK.due("S's entry is marked", x.entryOf(4 * 15), Entries.unsigned(Entries.valid(ALL, 15) | Entries.WRITTEN));
    CHECK.due("S's kept one too", x.kept(15, 2), Entries.unsigned(Entries.valid(ALL, 15) | Entries.WRITTEN));
    x.entry(0x88, Entries.valid(15, 14));
    CHECK.due("no right to write", x.write(32, 1, 0, 0), -5);
    CHECK.due("no mark without right", x.entryOf(0xC8), 0);
  }

  private static void slotsAreShared() {
    KeptPages x = Entries.laidOut();
    x.region(0, 0x8080, 13);
    x.region(1, 0x8080, 0);
    for (int p = 0; p < 13; p++) {
      x.entry(0x80 + 4 * p, Entries.valid(ALL, 14));
    }
    CHECK.due("A's page 1", x.read(16, 1, 0), 0);
    CHECK.due("kept", x.kept(1, 1), 16);
    CHECK.due("A's page 9", x.read(16 * 9, 1, 0), 0);
    CHECK.due("in its stead", x.kept(1, 1), 16 * 9);
    CHECK.due("B's page 1", x.read(0x4010, 1, 0), 0);
    CHECK.due("in its stead again", x.kept(1, 1), 0x4010);
    x.entry(0x80 + 4 * 9, 0);
    CHECK.due("A's page 9 fails", x.read(16 * 9, 1, 0), -1);
    CHECK.due("and puts nothing out", x.kept(1, 1), 0x4010);
    CHECK.due("S's page 7", x.read(0x8070, 1, 0), 0);
    CHECK.due("is in the other half", x.kept(15, 1), 0x8070);
    CHECK.due("S's page 15", x.read(0x80F0, 1, 0), 0);
    CHECK.due("puts out page 7", x.kept(15, 1), 0x80F0);
  }

  private static void entryAcrossPages() {
    KeptPages x = Entries.laidOut();
    x.region(0, 0x808E, 4);
    x.entry(4 * 9, Entries.valid(ALL, 3));
    x.entry(0x8E, Entries.valid(ALL, 14));
    CHECK.due("an entry lies behind one another physically", x.where(4, 0, true), 14 * 16 + 4);
    CHECK.due("write marks it there", x.write(4, 1, 7, 0), 0);
    CHECK.due("marked", x.entryOf(0x8E), Entries.unsigned(Entries.valid(ALL, 14) | Entries.WRITTEN));
    CHECK.due("the next page of S is not kept", x.kept(9, 0), 0);
  }

  private static void failed() {
    KeptPages x = Entries.laidOut();
    CHECK.due("nothing failed", x.failed(), -1);
    x.where(0, 0, false);
    x.may(0, 0, false);
    CHECK.due("where() and may() do not count", x.failed(), -1);
    x.read(7, 1, 0);
    CHECK.due("read", x.failed(), 7);
    x.write(0x7FF3, 4, 0, 0);
    CHECK.due("write", x.failed(), 0x7FF3);
    x.read(0x8000, 4, 0);
    CHECK.due("an access that is well leaves it", x.failed(), 0x7FF3);
    x.map(false);
    x.region(2, 0, 0);
    CHECK.due("map() and region() leave it", x.failed(), 0x7FF3);
    x.read(0x7000, 1, 0);
    CHECK.due("BEYOND leaves it", x.failed(), 0x7FF3);
    x.map(true);
    x.read(0x10000, 1, 0);
    CHECK.due("ACCESS with 3", x.failed(), 0);
    x.read(0x13, 3, 0);
    CHECK.due("a wrong n leaves it", x.failed(), 0);
  }
}
