import java.util.Arrays;

/**
 * Memory in pages, seen through three regions: tables of entries that lie in it themselves, rights
 * of four modes to read and write, entries that are kept, and a bit that tells what was written.
 */
public final class KeptPages {
  private static final int PAGE_BYTES = 16;
  private static final int ENTRY_BYTES = 4;
  private static final int FEWEST_PAGES = 4;
  private static final int MOST_PAGES = 128;
  private static final int USUAL_PAGES = 32;

  private static final int LOW_8 = 0xFF;
  private static final int LOW_16 = 0xFFFF;
  private static final long LOW_32 = 0xFFFFFFFFL;
  private static final int MODE_BITS = 3;
  private static final int PAGE_BITS = 0x3FF;
  private static final int PLACE_BITS = 15;

  private static final int REGIONS = 3;
  private static final int B = 1;
  private static final int S = 2;

  private static final int VALID = 1 << 31;
  private static final int WRITTEN = 1 << 26;
  private static final int WRITTEN_IN_TOP_BYTE = 1 << 2;
  private static final int PHYSICAL_PAGE = 0xFFF;
  private static final int CODE_SHIFT = 27;
  private static final int CODE_BITS = 15;

  /** By code, the highest mode that has the right; -1 where none has it. */
  private static final int[] MAY_WRITE = {-1, -1, 0, -1, 3, 1, 0, -1, 2, 1, 0, -1, 2, 1, 0, -1};
  private static final int[] MAY_READ = {-1, -1, 0, 0, 3, 1, 1, 1, 2, 2, 2, 2, 3, 3, 3, 3};

  private static final int SLOTS = 16;
  private static final int HALF = 8;
  private static final int NOTHING = -1;

  private static final int NO_RIGHT = 0;
  private static final int OUTSIDE = 1;
  private static final int NO_TABLE = 3;
  private static final int NOT_VALID = 0;
  private static final int TABLE_NOT_VALID = 2;
  private static final int MORE_FOR_WRITING = 4;
  private static final int FIRST_ACCESS = -1;
  private static final int FIRST_MISSING = -11;
  private static final int BEYOND = -100;
  private static final int WRONG_COUNT = -101;
  private static final int LARGEST_ACCESS = 4;

  private final byte[] memory;
  private final int[] bases;
  private final int[] lengths;
  private boolean mapped;
  private int failedAt;

  /** By slot: region and page of the kept entry as one number, or NOTHING. */
  private final int[] keptPages;
  private final int[] keptEntries;
  /** By slot: the physical address that the entry was read from, for its WRITTEN bit. */
  private final int[] keptPlaces;

  /** Physical addresses of the bytes of the access under way; held here to make no row a call. */
  private final int[] places;

  public KeptPages(int pages) {
    int count = pages >= FEWEST_PAGES && pages <= MOST_PAGES ? pages : USUAL_PAGES;
    memory = new byte[count * PAGE_BYTES];
    bases = new int[REGIONS];
    lengths = new int[REGIONS];
    mapped = false;
    failedAt = NOTHING;
    keptPages = new int[SLOTS];
    Arrays.fill(keptPages, NOTHING);
    keptEntries = new int[SLOTS];
    keptPlaces = new int[SLOTS];
    places = new int[LARGEST_ACCESS];
  }

  public boolean put(int at, int b) {
    if (!inMemory(at, 1)) {
      return false;
    }
    memory[at] = (byte) b;
    return true;
  }

  public boolean entry(int at, int v) {
    if (!inMemory(at, ENTRY_BYTES)) {
      return false;
    }
    for (int i = 0; i < ENTRY_BYTES; i++) {
      memory[at + i] = (byte) (v >>> 8 * i);
    }
    return true;
  }

  public long entryOf(int at) {
    return inMemory(at, ENTRY_BYTES) ? entryAt(at) & LOW_32 : -1L;
  }

  public boolean region(int region, int base, int length) {
    if (region < 0 || region >= REGIONS) {
      return false;
    }
    bases[region] = base & LOW_16;
    lengths[region] = length & LOW_16;
    forget(region == S ? SLOTS : HALF);
    return true;
  }

  public void map(boolean on) {
    mapped = on;
    forget(SLOTS);
  }

  public boolean drop(int address) {
    int at = address & LOW_16;
    int slot = slotOf(at);
    if (!counts(slot, at)) {
      return false;
    }
    keptPages[slot] = NOTHING;
    return true;
  }

  public long read(int address, int n, int mode) {
    if (!isCount(n)) {
      return WRONG_COUNT;
    }
    int fault = findPlaces(address, n, mode, false);
    if (fault != 0) {
      return fault;
    }
    long value = 0;
    for (int i = 0; i < n; i++) {
      value |= (long) byteAt(places[i]) << 8 * i;
    }
    return value;
  }

  public int write(int address, int n, int v, int mode) {
    if (!isCount(n)) {
      return WRONG_COUNT;
    }
    int fault = findPlaces(address, n, mode, true);
    if (fault != 0) {
      return fault;
    }
    for (int i = 0; i < n; i++) {
      memory[places[i]] = (byte) (v >>> 8 * i);
    }
    return 0;
  }

  public int where(int address, int mode, boolean write) {
    int place = translate(address & LOW_16, mode, write, false);
    if (place < 0) {
      return place;
    }
    return inMemory(place, 1) ? place : BEYOND;
  }

  public int may(int address, int mode, boolean write) {
    if (!mapped) {
      return 1;
    }
    int at = address & LOW_16;
    int slot = slotOf(at);
    if (counts(slot, at)) {
      return gives(keptEntries[slot], mode, write) ? 1 : 0;
    }
    int place = placeOfEntry(at, write, false);
    if (place < 0) {
      return isAccess(place) ? 0 : place;
    }
    return gives(entryAt(place), mode, write) ? 1 : 0;
  }

  public long kept(int i, int what) {
    if (i < 0 || i >= SLOTS || what < 0 || what > 2) {
      return -1L;
    }
    boolean one = keptPages[i] != NOTHING;
    if (what == 0) {
      return one ? 1L : 0L;
    }
    if (!one) {
      return -1L;
    }
    return what == 1 ? keptPages[i] * PAGE_BYTES : keptEntries[i] & LOW_32;
  }

  public int failed() {
    return failedAt;
  }

  /** Fills places for an access of n bytes: 0, or the fault that ends it. */
  private int findPlaces(int address, int n, int mode, boolean write) {
    for (int i = 0; i < n; i++) {
      int at = (address + i) & LOW_16;
      if (i > 0 && placeInPage(at) != 0) {
        places[i] = places[i - 1] + 1;
        continue;
      }
      int place = translate(at, mode, write, true);
      if (place < 0) {
        noteFault(place, at);
        return place;
      }
      places[i] = place;
    }
    // Only now: a fault of the second page goes before a byte of the first that is not in memory.
    for (int i = 0; i < n; i++) {
      if (!inMemory(places[i], 1)) {
        return BEYOND;
      }
    }
    return 0;
  }

  private void noteFault(int fault, int at) {
    if (fault != BEYOND) {
      failedAt = at;
    }
  }

  /**
   * The physical address (in memory or not) of a virtual one, or a fault. Without keep nothing is
   * kept and nothing becomes WRITTEN.
   */
  private int translate(int at, int mode, boolean write, boolean keep) {
    if (!mapped) {
      return at;
    }
    int slot = slotOf(at);
    boolean counted = counts(slot, at);
    int place = counted ? keptPlaces[slot] : placeOfEntry(at, write, keep);
    if (place < 0) {
      return place;
    }
    // A kept entry is not read again: memory may say something else by now.
    int entry = counted ? keptEntries[slot] : entryAt(place);
    if (!gives(entry, mode, write)) {
      return access(NO_RIGHT, write);
    }
    if (!isValid(entry)) {
      return missing(NOT_VALID, write);
    }
    if (keep) {
      keepEntry(slot, at, entry, place);
      if (write) {
        markWritten(slot);
      }
    }
    return physical(entry, at);
  }

  /** The physical address of the entry of a page, all four bytes being in memory, or a fault. */
  private int placeOfEntry(int at, boolean write, boolean keep) {
    int region = regionOf(at);
    int page = pageOf(at);
    if (!inside(region, page)) {
      return access(OUTSIDE, write);
    }
    int sum = bases[region] + ENTRY_BYTES * page;
    int place = region == S ? sum : placeThroughS(sum & LOW_16, write, keep);
    if (place < 0) {
      return place;
    }
    return inMemory(place, ENTRY_BYTES) ? place : BEYOND;
  }

  /** The physical address of an entry of A or B that lies at a virtual one, or a fault. */
  private int placeThroughS(int at, boolean write, boolean keep) {
    if (regionOf(at) != S || !inside(S, pageOf(at))) {
      return access(NO_TABLE, write);
    }
    int slot = slotOf(at);
    if (counts(slot, at)) {
      return physical(keptEntries[slot], at);
    }
    int place = bases[S] + ENTRY_BYTES * pageOf(at);
    if (!inMemory(place, ENTRY_BYTES)) {
      return BEYOND;
    }
    int entry = entryAt(place);
    if (!isValid(entry)) {
      return missing(TABLE_NOT_VALID, write);
    }
    if (keep) {
      keepEntry(slot, at, entry, place);
    }
    return physical(entry, at);
  }

  private void keepEntry(int slot, int at, int entry, int place) {
    keptPages[slot] = at / PAGE_BYTES;
    keptEntries[slot] = entry;
    keptPlaces[slot] = place;
  }

  private void markWritten(int slot) {
    if ((keptEntries[slot] & WRITTEN) != 0) {
      return;
    }
    keptEntries[slot] |= WRITTEN;
    // The bit alone: the rest of the entry in memory may have changed since it was kept.
    memory[keptPlaces[slot] + ENTRY_BYTES - 1] |= WRITTEN_IN_TOP_BYTE;
  }

  private void forget(int slots) {
    for (int i = 0; i < slots; i++) {
      keptPages[i] = NOTHING;
    }
  }

  /** Region 3 falls into the half of S, where no page of it is ever kept. */
  private static int slotOf(int at) {
    int rest = pageOf(at) % HALF;
    return regionOf(at) >= S ? HALF + rest : rest;
  }

  private boolean counts(int slot, int at) {
    return keptPages[slot] == at / PAGE_BYTES;
  }

  private boolean inside(int region, int page) {
    if (region >= REGIONS) {
      return false;
    }
    return region == B ? page >= lengths[region] : page < lengths[region];
  }

  /** Whether n bytes from a physical address on are all there; no sum, as it could wrap. */
  private boolean inMemory(int at, int n) {
    return at >= 0 && at <= memory.length - n;
  }

  private int byteAt(int at) {
    return memory[at] & LOW_8;
  }

  private int entryAt(int at) {
    return byteAt(at) | byteAt(at + 1) << 8 | byteAt(at + 2) << 16 | byteAt(at + 3) << 24;
  }

  private static boolean gives(int entry, int mode, boolean write) {
    int code = (entry >>> CODE_SHIFT) & CODE_BITS;
    int highest = write ? MAY_WRITE[code] : MAY_READ[code];
    return (mode & MODE_BITS) <= highest;
  }

  private static boolean isValid(int entry) {
    return (entry & VALID) != 0;
  }

  private static int physical(int entry, int at) {
    return (entry & PHYSICAL_PAGE) * PAGE_BYTES + placeInPage(at);
  }

  private static int regionOf(int at) {
    return (at >>> 14) & 3;
  }

  private static int pageOf(int at) {
    return (at >>> 4) & PAGE_BITS;
  }

  private static int placeInPage(int at) {
    return at & PLACE_BITS;
  }

  private static boolean isCount(int n) {
    return n == 1 || n == 2 || n == 4;
  }

  private static int access(int number, boolean write) {
    return FIRST_ACCESS - number - (write ? MORE_FOR_WRITING : 0);
  }

  private static int missing(int number, boolean write) {
    return FIRST_MISSING - number - (write ? MORE_FOR_WRITING : 0);
  }

  private static boolean isAccess(int fault) {
    return fault <= FIRST_ACCESS && fault > FIRST_MISSING;
  }
}
