/** Promises 5 to 7: region, map, drop; and which pages are inside of a region. */
public final class RegionTest {
  private static final Check CHECK = new Check();

  public static void main(String[] args) {
    wrongRegions();
    lowestBitsAlone();
    lengths();
    whatGoes();
    mapDropsAll();
    drop();
    CHECK.end();
  }

  private static void wrongRegions() {
    KeptPages x = keeping();
    int[] wrong = {-1, 3, 4, Integer.MAX_VALUE, Integer.MIN_VALUE, 0x10000};
    for (int region : wrong) {
      CHECK.due("region(" + region + ")", x.region(region, 0, 0), false);
    }
    CHECK.due("a wrong region leaves kept of A", x.kept(1, 0), 1);
    CHECK.due("a wrong region leaves kept of S", x.kept(8 + 2, 0), 1);
  }

  /** Kept are A's page 1, B's page 1020 (slot 4), S's pages 8 and 10 with the tables, and 5. */
  private static KeptPages keeping() {
    KeptPages x = Entries.laidOut();
    x.entry(0x84, Entries.valid(Entries.ALL_MAY, 12));
    x.entry(0xA0, Entries.valid(Entries.ALL_MAY, 13));
    CHECK.due("read of A", x.read(16, 1, 3), 0);
    CHECK.due("read of B", x.read(0x4000 + 16 * 1020, 1, 3), 0);
    CHECK.due("kept A and S", x.kept(1, 1), 16);
    CHECK.due("kept B", x.kept(4, 1), 0x4000 + 16 * 1020);
    CHECK.due("kept table of A", x.kept(8, 1), 0x8080);
    CHECK.due("kept table of B", x.kept(10, 1), 0x80A0);
    x.read(0x8050, 1, 3);
    CHECK.due("kept S", x.kept(13, 1), 0x8050);
    return x;
  }

  private static void lowestBitsAlone() {
    KeptPages x = Entries.laidOut();
    CHECK.due("region(0, -1 << 16 | base, ..)", x.region(0, 0xFFFF8080, 0xABC0004), true);
    x.entry(0x80 + 12, Entries.valid(Entries.ALL_MAY, 14));
    CHECK.due("base and length of 16 bits", x.where(16 * 3 + 1, 3, true), 16 * 14 + 1);
    CHECK.due("length of 16 bits", x.where(16 * 4, 3, true), -6);
    CHECK.due("region(0, .., -1)", x.region(0, 0x8080, -1), true);
    CHECK.due("length 0xFFFF holds all", x.where(16 * 1023, 3, false), -4);
    CHECK.due("region(0, .., 0x10000)", x.region(0, 0x8080, 0x10000), true);
    CHECK.due("length 0 holds none", x.where(0, 3, false), -2);
  }

  private static void lengths() {
    KeptPages x = Entries.laidOut();
    CHECK.due("A below its length", x.where(16 * 3, 0, false), -1);
    CHECK.due("A at its length", x.where(16 * 4, 0, false), -2);
    CHECK.due("B below its length", x.where(0x4000 + 16 * 1019, 0, false), -2);
    CHECK.due("B at its length", x.where(0x4000 + 16 * 1020, 0, false), -1);
    CHECK.due("B's last page", x.where(0x7FFF, 0, true), -5);
    CHECK.due("S below its length", x.where(0x8000 + 16 * 15 + 3, 0, false), 16 * 15 + 3);
    CHECK.due("S at its length", x.where(0x8000 + 16 * 16, 0, true), -6);
    x.region(1, 0, 1024);
    CHECK.due("B with length 1024 has no page", x.where(0x7FFF, 0, false), -2);
    x.region(1, 0x8000, 0);
    CHECK.due("B with length 0 has page 0", x.where(0x4007, 0, false), 7);
    x.region(2, 0, 0);
    CHECK.due("S with length 0 has none", x.where(0x8000, 0, false), -2);
    CHECK.due("region 3, read", x.where(0xC000, 0, false), -2);
    CHECK.due("region 3, write", x.where(0xFFFF, 0, true), -6);
  }

  private static void whatGoes() {
    for (int region = 0; region < 3; region++) {
      KeptPages x = keeping();
      CHECK.due("region(" + region + ")", x.region(region, 0, 0), true);
      String then = " after region(" + region + ")";
      CHECK.due("kept of A" + then, x.kept(1, 0), 0);
      CHECK.due("kept of B" + then, x.kept(4, 0), 0);
      CHECK.due("kept table of A" + then, x.kept(8, 0), region == 2 ? 0 : 1);
      CHECK.due("kept table of B" + then, x.kept(10, 0), region == 2 ? 0 : 1);
      CHECK.due("kept of S" + then, x.kept(13, 0), region == 2 ? 0 : 1);
    }
  }

  private static void mapDropsAll() {
    for (int on = 0; on < 2; on++) {
      KeptPages x = keeping();
      x.map(on == 1);
      for (int i = 0; i < 16; i++) {
        CHECK.due("kept(" + i + ", 0) after map(" + on + ")", x.kept(i, 0), 0);
      }
      CHECK.due("where() after map(" + on + ")", x.where(17, 0, false), on == 1 ? 12 * 16 + 1 : 17);
      x.read(16, 1, 0);
      CHECK.due("kept(1, 0) after read()", x.kept(1, 0), on);
    }
  }

  private static void drop() {
    KeptPages x = keeping();
    CHECK.due("drop of a page not kept", x.drop(0), false);
    CHECK.due("drop of A's page in B's slot", x.drop(16 * 1020), false);
    CHECK.due("drop of B's page in A's slot", x.drop(0x4010), false);
    CHECK.due("drop of A's page with the same rest", x.drop(16 * 9), false);
    CHECK.due("drop of S's page with the same rest", x.drop(0x8000), false);
    CHECK.due("drop in region 3", x.drop(0xC080), false);
    CHECK.due("these leave A's", x.kept(1, 0), 1);
    CHECK.due("drop(-1 << 16 | 31)", x.drop(0xFFFF001F), true);
    CHECK.due("A's is gone", x.kept(1, 0), 0);
    CHECK.due("drop again", x.drop(16), false);
    CHECK.due("B's stays", x.kept(4, 0), 1);
    CHECK.due("drop of B's", x.drop(0x4000 + 16 * 1020 + 7), true);
    CHECK.due("drop of S's", x.drop(0x8080), true);
    CHECK.due("S's is gone", x.kept(8, 0), 0);
    CHECK.due("the other S's stays", x.kept(10, 0), 1);
    CHECK.due("memory holds it still", x.where(16, 0, false), 12 * 16);
  }
}
