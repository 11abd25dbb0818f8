import java.util.Map;
import java.util.TreeMap;

/**
 * The document once more, as plainly as it can be said with the Java library, to be held against the
 * class: faults are exceptions, "nothing is kept or changed" works on a copy, regions have names.
 */
final class Model {
  private static final String[] RIGHTS = {
    "--", "--", "00", "-0", "33", "11", "01", "-1", "22", "12", "02", "-2", "23", "13", "03", "-3"
  };

  private static final class Fault extends Exception {
    private static final long serialVersionUID = 1L;
    final int answer;
    final boolean noted;

    Fault(int answer, boolean noted) {
      this.answer = answer;
      this.noted = noted;
    }
  }

  private static final class Kept {
    char region;
    int page;
    long entry;
    int readAt;
  }

  private final int[] bytes;
  private final Map<Character, Integer> base = new TreeMap<>();
  private final Map<Character, Integer> length = new TreeMap<>();
  private final Map<Integer, Kept> kept = new TreeMap<>();
  private boolean on = false;
  private int failed = -1;

  Model(int pages) {
    bytes = new int[pages < 4 || pages > 128 ? 512 : 16 * pages];
    for (char r : new char[] {'A', 'B', 'S'}) {
      base.put(r, 0);
      length.put(r, 0);
    }
  }

  private Model(Model m) {
    bytes = m.bytes.clone();
    base.putAll(m.base);
    length.putAll(m.length);
    for (Map.Entry<Integer, Kept> e : m.kept.entrySet()) {
      Kept k = new Kept();
      k.region = e.getValue().region;
      k.page = e.getValue().page;
      k.entry = e.getValue().entry;
      k.readAt = e.getValue().readAt;
      kept.put(e.getKey(), k);
    }
    on = m.on;
    failed = m.failed;
  }

  private boolean there(long at) {
    return at >= 0 && at < bytes.length;
  }

  private static char regionOf(int address) {
    return "ABS-".charAt(address >> 14);
  }

  private static int pageOf(int address) {
    return address % 0x4000 / 16;
  }

  private static int number(char region, int page) {
    return page % 8 + (region == 'S' ? 8 : 0);
  }

  private Kept keptOne(int address) {
    Kept k = kept.get(number(regionOf(address), pageOf(address)));
    return k != null && k.region == regionOf(address) && k.page == pageOf(address) ? k : null;
  }

  private Kept keep(int address, long entry, int readAt) {
    Kept k = new Kept();
    k.region = regionOf(address);
    k.page = pageOf(address);
    k.entry = entry;
    k.readAt = readAt;
    kept.put(number(k.region, k.page), k);
    return k;
  }

  private boolean inLength(int address) {
    switch (regionOf(address)) {
      case 'A':
        return pageOf(address) < length.get('A');
      case 'B':
        return pageOf(address) >= length.get('B');
      case 'S':
        return pageOf(address) < length.get('S');
      default:
        return false;
    }
  }

  private static Fault access(int number, boolean write) {
    return new Fault(-1 - (write ? number + 4 : number), true);
  }

  private static Fault missing(int number, boolean write) {
    return new Fault(-11 - (write ? number + 4 : number), true);
  }

  private long fetch(long at) throws Fault {
    if (!there(at) || !there(at + 3)) {
      throw new Fault(-100, false);
    }
    return entryOf((int) at);
  }

  private static boolean valid(long entry) {
    return entry >= 0x80000000L;
  }

  private static boolean right(long entry, int mode, boolean write) {
    char highest = RIGHTS[(int) (entry / 0x08000000L % 16)].charAt(write ? 0 : 1);
    return highest != '-' && (mode & 3) <= highest - '0';
  }

  private static int physical(long entry, int address) {
    return (int) (entry % 4096) * 16 + address % 16;
  }

  /** The place of the entry of a page that has none kept. */
  private int entryPlace(int address, boolean write) throws Fault {
    if (!inLength(address)) {
      throw access(1, write);
    }
    char region = regionOf(address);
    int sum = base.get(region) + 4 * pageOf(address);
    if (region == 'S') {
      return sum;
    }
    int table = sum % 0x10000;
    if (regionOf(table) != 'S' || !inLength(table)) {
      throw access(3, write);
    }
    Kept k = keptOne(table);
    if (k == null) {
      int at = base.get('S') + 4 * pageOf(table);
      long entry = fetch(at);
      if (!valid(entry)) {
        throw missing(2, write);
      }
      k = keep(table, entry, at);
    }
    return physical(k.entry, table);
  }

  private int translate(int address, int mode, boolean write) throws Fault {
    if (!on) {
      return address;
    }
    Kept k = keptOne(address);
    int place = k == null ? entryPlace(address, write) : k.readAt;
    long entry = k == null ? fetch(place) : k.entry;
    if (!right(entry, mode, write)) {
      throw access(0, write);
    }
    if (!valid(entry)) {
      throw missing(0, write);
    }
    if (k == null) {
      k = keep(address, entry, place);
    }
    if (write && k.entry / 0x04000000L % 2 == 0) {
      k.entry += 0x04000000L;
      bytes[k.readAt + 3] |= 4;
    }
    return physical(k.entry, address);
  }

  private int[] places(int address, int n, int mode, boolean write) throws Fault {
    int[] places = new int[n];
    int page = -1;
    int pagePlace = 0;
    for (int i = 0; i < n; i++) {
      int at = (address + i) & 0xFFFF;
      if (at / 16 != page) {
        page = at / 16;
        try {
          pagePlace = translate(at, mode, write) - at % 16;
        } catch (Fault f) {
          failed = f.noted ? at : failed;
          throw f;
        }
      }
      places[i] = pagePlace + at % 16;
    }
    for (int place : places) {
      if (!there(place)) {
        throw new Fault(-100, false);
      }
    }
    return places;
  }

  boolean put(int at, int b) {
    if (there(at)) {
      bytes[at] = b & 255;
    }
    return there(at);
  }

  boolean entry(int at, int v) {
    if (!there(at) || !there(at + 3L)) {
      return false;
    }
    for (int i = 0; i < 4; i++) {
      bytes[at + i] = v >> 8 * i & 255;
    }
    return true;
  }

  long entryOf(int at) {
    if (!there(at) || !there(at + 3L)) {
      return -1;
    }
    return ((bytes[at + 3] * 256L + bytes[at + 2]) * 256L + bytes[at + 1]) * 256L + bytes[at];
  }

  boolean region(int region, int newBase, int newLength) {
    if (region < 0 || region > 2) {
      return false;
    }
    base.put("ABS".charAt(region), newBase & 0xFFFF);
    length.put("ABS".charAt(region), newLength & 0xFFFF);
    kept.keySet().removeIf(i -> region == 2 || i < 8);
    return true;
  }

  void map(boolean isOn) {
    on = isOn;
    kept.clear();
  }

  boolean drop(int address) {
    Kept k = keptOne(address & 0xFFFF);
    return k != null && kept.values().remove(k);
  }

  long read(int address, int n, int mode) {
    if (n != 1 && n != 2 && n != 4) {
      return -101;
    }
    try {
      int[] places = places(address, n, mode, false);
      long sum = 0;
      for (int i = n - 1; i >= 0; i--) {
        sum = sum * 256 + bytes[places[i]];
      }
      return sum;
    } catch (Fault f) {
      return f.answer;
    }
  }

  int write(int address, int n, int v, int mode) {
    if (n != 1 && n != 2 && n != 4) {
      return -101;
    }
    try {
      int[] places = places(address, n, mode, true);
      for (int i = 0; i < n; i++) {
        bytes[places[i]] = v >> 8 * i & 255;
      }
      return 0;
    } catch (Fault f) {
      return f.answer;
    }
  }

  int where(int address, int mode, boolean write) {
    try {
      int place = new Model(this).translate(address & 0xFFFF, mode, write);
      return there(place) ? place : -100;
    } catch (Fault f) {
      return f.answer;
    }
  }

  int may(int address, int mode, boolean write) {
    if (!on) {
      return 1;
    }
    int at = address & 0xFFFF;
    try {
      Model copy = new Model(this);
      Kept k = copy.keptOne(at);
      long entry = k != null ? k.entry : copy.fetch(copy.entryPlace(at, write));
      return right(entry, mode, write) ? 1 : 0;
    } catch (Fault f) {
      return f.answer > -11 ? 0 : f.answer;
    }
  }

  long kept(int i, int what) {
    Kept k = kept.get(i);
    if (i < 0 || i > 15 || what < 0 || what > 2) {
      return -1;
    }
    if (what == 0) {
      return k == null ? 0 : 1;
    }
    if (k == null) {
      return -1;
    }
    return what == 1 ? "ABS".indexOf(k.region) * 0x4000 + k.page * 16 : k.entry;
  }

  int failed() {
    return failed;
  }
}
