import java.util.Random;

/** All promises: long runs of calls, always the same ones, each answer held against the Model's. */
public final class ModelTest {
  private static final int RUNS = 5000;
  // Together with the map they are 512 calls of an object: what more would answer is free.
  private static final int TABLE_ENTRIES = 64;
  private static final int REGIONS_AND_MAP = 4;
  private static final int LAST_KEPT = 16;
  private static final int LAST_ENTRIES = 64;
  private static final int CALLS = 512 - TABLE_ENTRIES - REGIONS_AND_MAP - LAST_KEPT - LAST_ENTRIES;
  private static final int[] EDGES = {
    0, 1, 3, 4, 15, 16, 17, 63, 64, 0x3FFF, 0x4000, 0x7FFF, 0x8000, 0xBFFF, 0xC000, 0xFFFC, 0xFFFF,
    0x10000, -1, -2, -4, Integer.MAX_VALUE, Integer.MAX_VALUE - 3, Integer.MIN_VALUE
  };

  private static final Check CHECK = new Check();

  private final Random random;
  private final int pages;
  private final KeptPages x;
  private final Model m;
  private String run;

  private ModelTest(int seed) {
    random = new Random(seed);
    pages = random.nextInt(8) == 0 ? any() : 4 + random.nextInt(seed % 2 == 0 ? 12 : 125);
    x = new KeptPages(pages);
    m = new Model(pages);
    run = "run " + seed + " (" + pages + " pages) ";
  }

  public static void main(String[] args) {
    for (int seed = 0; seed < RUNS && CHECK.wrong() == 0; seed++) {
      new ModelTest(seed).all();
    }
    CHECK.end();
  }

  private void all() {
    if (random.nextInt(8) != 0) {
      layTables();
    }
    for (int i = 0; i < CALLS && CHECK.wrong() == 0; i++) {
      call();
    }
    for (int i = 0; i < LAST_KEPT; i++) {
      CHECK.due(run + "at last kept(" + i + ", 2)", x.kept(i, 2), m.kept(i, 2));
    }
    for (int i = 0; i < LAST_ENTRIES; i++) {
      int at = 4 * i < size() ? 4 * i : random.nextInt(size());
      CHECK.due(run + "at last entryOf(" + at + ")", x.entryOf(at), m.entryOf(at));
    }
  }

  private int size() {
    return 16 * (pages < 4 || pages > 128 ? 32 : pages);
  }

  private int any() {
    return random.nextInt(3) == 0 ? random.nextInt() : EDGES[random.nextInt(EDGES.length)];
  }

  private int anyEntry() {
    int code = random.nextInt(3) == 0 ? 4 : random.nextInt(16);
    int page = random.nextInt(12) == 0 ? random.nextInt(4096) : random.nextInt(size() / 16);
    int rest = random.nextInt(4) == 0 ? random.nextInt() & 0x07FFF000 : 0;
    return (random.nextInt(8) == 0 ? 0 : 1 << 31) | code << 27 | rest | page;
  }

  /** Tables of S at the start of memory, which is filled with entries throughout. */
  private void layTables() {
    for (int i = 0; i < TABLE_ENTRIES && 4 * i < size(); i++) {
      both("entry", 4 * i, anyEntry(), 0, 0);
    }
    both("region", 2, random.nextInt(8), random.nextInt(size() / 8), 0);
    both("region", 0, 0x8000 + random.nextInt(64), random.nextInt(40), 0);
    both("region", 1, 0x8000 - 4 * 1000 + random.nextInt(64), 1000 + random.nextInt(24), 0);
    both("map", 1, 0, 0, 0);
  }

  private int address() {
    int page = random.nextInt(3) == 0 ? random.nextInt(6) : random.nextInt(24);
    int place = random.nextInt(2) == 0 ? random.nextInt(16) : 12 + random.nextInt(4);
    switch (random.nextInt(12)) {
      case 0:
        return any();
      case 1, 2, 3:
        return 0x8000 + 16 * page + place;
      case 4, 5, 6:
        return 0x4000 + 16 * (1023 - page) + place;
      default:
        return 16 * page + place;
    }
  }

  private int count() {
    return random.nextInt(20) == 0 ? any() : 1 << random.nextInt(3);
  }

  private int physical() {
    return random.nextInt(10) == 0 ? any() : random.nextInt(size() + 2);
  }

  private int mode() {
    return random.nextInt(6) == 0 ? any() : random.nextInt(4) * random.nextInt(2);
  }

  private void call() {
    switch (random.nextInt(24)) {
      case 0 -> both("put", physical(), any(), 0, 0);
      case 1, 2 -> both("entry", physical() & ~3, anyEntry(), 0, 0);
      case 3 -> both("entryOf", physical(), 0, 0, 0);
      case 4 -> both("drop", address(), 0, 0, 0);
      case 5 -> seldom();
      case 6, 7, 8, 9, 10 -> both("read", address(), count(), mode(), 0);
      case 11, 12, 13, 14, 15 -> both("write", address(), count(), anyEntry(), mode());
      case 16, 17 -> both("where", address(), mode(), random.nextInt(2), 0);
      case 18, 19 -> both("may", address(), mode(), random.nextInt(2), 0);
      case 20, 21 -> both("kept", random.nextInt(20) == 0 ? any() : random.nextInt(16), random.nextInt(3), 0, 0);
      case 22 -> both("kept", random.nextInt(16), any(), 0, 0);
      default -> both("failed", 0, 0, 0, 0);
    }
  }

  private void seldom() {
    switch (random.nextInt(12)) {
      case 0 -> both("map", random.nextInt(6) == 0 ? 0 : 1, 0, 0, 0);
      case 1 -> both("map", 1, 0, 0, 0);
      case 2 -> both("region", any(), any(), any(), 0);
      case 3 -> both("region", 2, random.nextInt(16), random.nextInt(size() / 4), 0);
      case 4 -> both("region", 0, 0x8000 + random.nextInt(256), random.nextInt(40), 0);
      case 5 -> both("region", 1, 0x8000 - 4 * 1000 + random.nextInt(256), 1000 + random.nextInt(24), 0);
      default -> both("failed", 0, 0, 0, 0);
    }
  }

  private void both(String name, int a, int b, int c, int d) {
    String call = run + name + "(" + a + ", " + b + ", " + c + ", " + d + ")";
    switch (name) {
      case "put" -> CHECK.due(call, x.put(a, b), m.put(a, b));
      case "entry" -> CHECK.due(call, x.entry(a, b), m.entry(a, b));
      case "entryOf" -> CHECK.due(call, x.entryOf(a), m.entryOf(a));
      case "region" -> CHECK.due(call, x.region(a, b, c), m.region(a, b, c));
      case "drop" -> CHECK.due(call, x.drop(a), m.drop(a));
      case "read" -> CHECK.due(call, x.read(a, b, c), m.read(a, b, c));
      case "write" -> CHECK.due(call, x.write(a, b, c, d), m.write(a, b, c, d));
      case "where" -> CHECK.due(call, x.where(a, b, c == 1), m.where(a, b, c == 1));
      case "may" -> CHECK.due(call, x.may(a, b, c == 1), m.may(a, b, c == 1));
      case "kept" -> CHECK.due(call, x.kept(a, b), m.kept(a, b));
      case "failed" -> CHECK.due(call, x.failed(), m.failed());
      case "map" -> {
        x.map(a == 1);
        m.map(a == 1);
      }
      default -> CHECK.due(call + " is no call", 0, 1);
    }
  }
}
