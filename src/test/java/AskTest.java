/** Promises 10 to 12: where, may, kept. */
public final class AskTest {
  private static final Check CHECK = new Check();
  private static final int ALL = Entries.ALL_MAY;

  public static void main(String[] args) {
    where();
    whereFaults();
    may();
    mayFaults();
    nothingChanges();
    kept();
    CHECK.end();
  }

  private static void where() {
    KeptPages x = new KeptPages(4);
    CHECK.due("OFF where(63)", x.where(63, 0, false), 63);
    CHECK.due("OFF where(64)", x.where(64, 0, true), -100);
    CHECK.due("OFF where(0x10005)", x.where(0x10005, 0, true), 5);
    CHECK.due("OFF where(-1)", x.where(-1, 0, false), -100);
    x = Entries.laidOut();
    x.entry(0x80, Entries.valid(12, 14) | 0x03FFF000);
    CHECK.due("where(9, 3, false)", x.where(9, 3, false), 14 * 16 + 9);
    CHECK.due("where(9, 2, true)", x.where(9, 2, true), 14 * 16 + 9);
    CHECK.due("where(9, 6, true): 2 bits of the mode", x.where(9, 6, true), 14 * 16 + 9);
    CHECK.due("where(9, -1, true): 2 bits of the mode", x.where(9, -1, true), -5);
    CHECK.due("where() of S", x.where(0x80FF, 3, true), 255);
    CHECK.due("where() with more bits", x.where(0xFFFF80FF, 3, true), 255);
  }

  private static void whereFaults() {
    KeptPages x = Entries.laidOut();
    x.entry(0x80, Entries.valid(12, 16));
    x.entry(0x84, Entries.notValid(12, 14));
    CHECK.due("a page behind memory", x.where(0, 3, false), -100);
    CHECK.due("no right goes ahead of that", x.where(0, 3, true), -5);
    CHECK.due("not VALID, read", x.where(16, 3, false), -11);
    CHECK.due("not VALID, write", x.where(16, 2, true), -15);
    CHECK.due("outside, read", x.where(64, 3, false), -2);
    CHECK.due("outside, write", x.where(64, 3, true), -6);
    x.entry(4 * 8, 0);
    CHECK.due("table not VALID, read", x.where(0, 3, false), -13);
    CHECK.due("table not VALID, write", x.where(0, 3, true), -17);
    x.region(0, 0, 4);
    CHECK.due("no table, read", x.where(0, 3, false), -4);
    CHECK.due("no table, write", x.where(0, 3, true), -8);
    x.region(2, 0x1000, 16);
    CHECK.due("S's entry behind memory", x.where(0x8000, 3, true), -100);
    CHECK.due("failed()", x.failed(), -1);
  }

  private static void may() {
    KeptPages x = Entries.laidOut();
    x.entry(0x80, Entries.valid(9, 14));
    x.entry(0x84, Entries.notValid(9, 14));
    x.entry(0x88, Entries.valid(9, 0xFFF));
    x.entry(4 * 15, Entries.notValid(9, 15));
    int[] addresses = {5, 16 + 5, 32 + 5, 0x80F5, 0x10005};
    for (int at : addresses) {
      for (int mode = -4; mode < 8; mode++) {
        CHECK.due("may(" + at + ", " + mode + ", false)", x.may(at, mode, false), (mode & 3) <= 2 ? 1 : 0);
        CHECK.due("may(" + at + ", " + mode + ", true)", x.may(at, mode, true), (mode & 3) <= 1 ? 1 : 0);
      }
    }
    x.map(false);
    CHECK.due("OFF may()", x.may(5, 3, true), 1);
    CHECK.due("OFF may() behind memory", x.may(0xFFFF, 3, true), 1);
  }

  private static void mayFaults() {
    KeptPages x = Entries.laidOut();
    for (int w = 0; w < 2; w++) {
      CHECK.due("may() outside of A", x.may(64, 0, w == 1), 0);
      CHECK.due("may() outside of B", x.may(0x4000, 0, w == 1), 0);
      CHECK.due("may() outside of S", x.may(0x8100, 0, w == 1), 0);
      CHECK.due("may() in region 3", x.may(0xC000, 0, w == 1), 0);
    }
    x.region(0, 0x4000, 4);
    CHECK.due("may() without a table, read", x.may(0, 0, false), 0);
    CHECK.due("may() without a table, write", x.may(0, 0, true), 0);
    x.region(0, 0x8100, 4);
    CHECK.due("may() with the table outside of S", x.may(0, 0, true), 0);
    x.region(0, 0x8080, 4);
    x.entry(4 * 8, Entries.notValid(ALL, 8));
    CHECK.due("may() with the table not VALID, read", x.may(0, 0, false), -13);
    CHECK.due("may() with the table not VALID, write", x.may(0, 0, true), -17);
    x.entry(4 * 8, Entries.valid(ALL, 16));
    CHECK.due("may() with A's entry behind memory", x.may(0, 0, false), -100);
    x.region(2, 0x1000, 16);
    CHECK.due("may() with S's entry behind memory", x.may(0x8000, 0, true), -100);
    CHECK.due("may() with the table's entry behind memory", x.may(0, 0, true), -100);
    CHECK.due("failed()", x.failed(), -1);
  }

  private static void nothingChanges() {
    KeptPages x = Entries.laidOut();
    x.entry(0x80, Entries.valid(ALL, 14));
    x.where(0, 0, true);
    x.may(0, 0, true);
    x.where(0x80F0, 0, true);
    x.may(0x80F0, 0, true);
    for (int i = 0; i < 16; i++) {
      CHECK.due("where() and may() keep nothing: " + i, x.kept(i, 0), 0);
    }
    x.read(0, 1, 0);
    x.where(0, 0, true);
    x.may(0, 0, true);
    CHECK.due("nothing becomes WRITTEN", x.entryOf(0x80), Entries.unsigned(Entries.valid(ALL, 14)));
    CHECK.due("nor as kept", x.kept(0, 2), Entries.unsigned(Entries.valid(ALL, 14)));
  }

  private static void kept() {
    KeptPages x = Entries.laidOut();
    x.entry(0xA0 + 12, Entries.valid(ALL, 14) | 0x3FFF000);
    CHECK.due("read of B's last byte", x.read(0x7FFF, 1, 3), 0);
    CHECK.due("kept(7, 0)", x.kept(7, 0), 1);
    CHECK.due("kept(7, 1)", x.kept(7, 1), 0x7FF0);
    CHECK.due("kept(7, 2)", x.kept(7, 2), Entries.unsigned(Entries.valid(ALL, 14) | 0x3FFF000));
    CHECK.due("kept(10, 0)", x.kept(10, 0), 1);
    CHECK.due("kept(10, 1)", x.kept(10, 1), 0x80A0);
    CHECK.due("kept(10, 2)", x.kept(10, 2), Entries.unsigned(Entries.valid(ALL, 10)));
    CHECK.due("kept(9, 0)", x.kept(9, 0), 0);
    CHECK.due("kept(9, 1)", x.kept(9, 1), -1);
    CHECK.due("kept(9, 2)", x.kept(9, 2), -1);
    int[] wrong = {-1, 16, 17, Integer.MAX_VALUE, Integer.MIN_VALUE};
    for (int i : wrong) {
      for (int what = 0; what < 3; what++) {
        CHECK.due("kept(" + i + ", " + what + ")", x.kept(i, what), -1);
      }
    }
    int[] wrongWhat = {-1, 3, Integer.MAX_VALUE, Integer.MIN_VALUE};
    for (int what : wrongWhat) {
      CHECK.due("kept(7, " + what + ")", x.kept(7, what), -1);
      CHECK.due("kept(9, " + what + ")", x.kept(9, what), -1);
    }
  }
}
