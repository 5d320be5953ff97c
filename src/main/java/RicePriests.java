/** A mission whose priests eat the confessions that they take; README.md says how to use it. */
public final class RicePriests {

  private static final int BEYOND = -1000001;
  private static final int FULL = BEYOND - 1;
  private static final int KIND = BEYOND - 2;
  private static final int NONE = BEYOND - 3;
  private static final int STATE = BEYOND - 4;
  private static final int MISSING = BEYOND - 5;
  private static final int SIZE = BEYOND - 6;
  private static final int FINDINGS = 7;

  private static final int SINS = 8;
  private static final int ALL_SINS = 255;
  private static final int MOST_WORDS = 40;
  private static final int MOST_WATER = 9;
  private static final int MOST_STUFFED = 999;
  private static final int MOST_COUNTED = 9999;
  private static final int MOST_DAY = 99999;
  private static final int MOST_KEPT = 99999;
  private static final int PLACES = 6;
  private static final int MOST_PRIESTS = 8;
  private static final int SPOTS = 10;
  private static final int SHEETS = 4;
  private static final int MOST_NUMBERS = 40;
  private static final int MOST_BYTES = 120;

  private static final int MOST_GO = 60;
  private static final int MOST_COME = 20;
  private static final int MOST_AHEAD = 100;
  private static final int MOST_TRIED = 60;
  private static final int MOST_FAST = 20;
  private static final int MOST_ODDS = 20;

  private final Mission mission = new Mission();
  private final Mission imageKept = new Mission();
  private boolean hasImage = false;
  private final Seer seer = new Seer();
  private final Reader reader = new Reader();
  private final Sheet[] sheets = new Sheet[SHEETS];
  private final int[] told = new int[FINDINGS];

  public RicePriests() {
    for (int s = 0; s < SHEETS; s++) {
      sheets[s] = new Sheet();
    }
  }

  // ---- mission, priests

  public int set(int what, int v) {
    if (what == 0 && within(v, MOST_WATER)) {
      int was = mission.water;
      mission.water = v;
      return was;
    }
    if (what == 1 && within(v, ALL_SINS)) {
      int was = mission.out;
      mission.out = v;
      return was;
    }
    return tell(BEYOND);
  }

  public int list(int i, int confession) {
    if (!within(i, PLACES - 1) || !isConfession(confession)) {
      return tell(BEYOND);
    }
    int was = mission.list[i];
    mission.list[i] = confession;
    return was;
  }

  public int listed(int i) {
    return within(i, PLACES - 1) ? mission.list[i] : tell(BEYOND);
  }

  public int priest(int kind, int sins) {
    if (!Priest.isKind(kind) || !within(sins, ALL_SINS)) {
      return tell(BEYOND);
    }
    int number = mission.welcome(kind, sins);
    return number < 0 ? tell(FULL) : number;
  }

  public int of(int priest, int what) {
    Priest he = mission.at(priest);
    return he != null && within(what, Priest.KEEPS) ? mission.tellOf(he, what) : tell(BEYOND);
  }

  public int change(int priest, int what, int v) {
    Priest he = mission.at(priest);
    if (he == null || !Priest.mayBe(what, v)) {
      return tell(BEYOND);
    }
    int was = mission.tellOf(he, what);
    he.put(what, v);
    return was;
  }

  public int swells(int priest, int confession) {
    Priest he = mission.at(priest);
    if (he == null || !isConfession(confession)) {
      return tell(BEYOND);
    }
    return he.swelling(sinOf(confession), wordsOf(confession), mission.water);
  }

  public int goes(int sin) {
    return within(sin, SINS - 1) ? orNone(mission.hungriestOf(mission.takersOf(sin))) : tell(BEYOND);
  }

  public int dies(int priest) {
    Priest he = mission.at(priest);
    return he != null ? orNone(mission.bury(priest, he)) : tell(BEYOND);
  }

  // ---- days

  public int go(int n) {
    if (n < 1 || n > MOST_GO) {
      return tell(BEYOND);
    }
    if (mission.day + n > MOST_DAY) {
      return tell(STATE);
    }
    mission.passDays(n);
    return mission.out;
  }

  public int now(int what) {
    switch (what) {
      case 0: return mission.day;
      case 1: return mission.out;
      case 2: return mission.kept;
      case 3: return mission.sinsTogether(Priest.KNOWS);
      case 4: return mission.sumTogether(Priest.STUFFED);
      case 5: return mission.fullest();
      case 6: return mission.sumTogether(Priest.ILL);
      case 7: return ALL_SINS & ~mission.sinsTogether(Priest.TAKES);
      default: return tell(BEYOND);
    }
  }

  // ---- what will be (nothing changes)

  public int ahead(int priest, int what, int n) {
    if (mission.at(priest) == null || !changesByDays(what) || !within(n, MOST_AHEAD)) {
      return tell(BEYOND);
    }
    return seer.tellBehind(mission, priest, what, n);
  }

  public int ill(int priest) {
    return mission.at(priest) != null ? orNone(seer.daysTillIll(mission, priest)) : tell(BEYOND);
  }

  public int out(int sin) {
    return within(sin, SINS - 1) ? orNone(seer.daysTillOut(mission, sin)) : tell(BEYOND);
  }

  public int wise(int priest, int v) {
    if (mission.at(priest) == null || !within(v, SINS)) {
      return tell(BEYOND);
    }
    return orNone(seer.daysTillWise(mission, priest, v));
  }

  public int when(int priest, int v) {
    if (mission.at(priest) == null || !within(v, MOST_STUFFED)) {
      return tell(BEYOND);
    }
    return orNone(seer.daysTillStuffed(mission, priest, v));
  }

  // ---- how to confess

  public int wordsFor(int i, int n) {
    if (!within(i, PLACES - 1) || !within(n, MOST_TRIED)) {
      return tell(BEYOND);
    }
    return orNone(seer.mostHarmlessWords(mission, i, n));
  }

  public int waterFor(int n) {
    return within(n, MOST_TRIED) ? orNone(seer.leastQuietWater(mission, n)) : tell(BEYOND);
  }

  public int spare(int priest, int n) {
    if (mission.at(priest) == null || !within(n, MOST_TRIED)) {
      return tell(BEYOND);
    }
    return seer.sinToSpare(mission, priest, n);
  }

  public int kindFor(int priest, int n) {
    if (mission.at(priest) == null || !within(n, MOST_TRIED)) {
      return tell(BEYOND);
    }
    return seer.healthiestKind(mission, priest, n);
  }

  public int fast(int n) {
    return within(n, MOST_FAST) ? orNone(seer.fewestFasting(mission, n)) : tell(BEYOND);
  }

  public int cover(int sins) {
    return within(sins, ALL_SINS) ? orNone(mission.fewestTaking(sins)) : tell(BEYOND);
  }

  // ---- told fulness

  public int fits(int s, int priest) {
    Sheet page = sheetAt(s);
    int wrong = wrongFulness(page, priest);
    return wrong == 0 ? Long.bitCount(seer.fittingWords(mission, priest, page)) : tell(wrong);
  }

  public int words(int s, int priest) {
    Sheet page = sheetAt(s);
    int wrong = wrongFulness(page, priest);
    if (wrong != 0) {
      return tell(wrong);
    }
    long fitting = seer.fittingWords(mission, priest, page);
    for (int words = 0; words <= MOST_WORDS; words++) {
      if ((fitting >> words & 1) != 0) {
        return words;
      }
    }
    return tell(NONE);
  }

  public int kinds(int s, int priest) {
    Sheet page = sheetAt(s);
    int wrong = wrongFulness(page, priest);
    return wrong == 0 ? seer.fittingKinds(mission, priest, page) : tell(wrong);
  }

  // ---- penitents

  public int come(int n) {
    if (n < 1 || n > MOST_COME) {
      return tell(BEYOND);
    }
    if (mission.day + n > MOST_DAY) {
      return tell(STATE);
    }
    for (int times = 0; times < n; times++) {
      int sin = mission.draw() % SINS;
      int words = mission.draw() % (MOST_WORDS + 1);
      mission.list[mission.placeToday()] = confessionOf(sin, words);
      mission.passDay();
    }
    return mission.out;
  }

  public long odds(int priest, int n, int what) {
    Priest he = mission.at(priest);
    if (he == null || !within(n, MOST_ODDS) || !within(what, 1)) {
      return tell(BEYOND);
    }
    int above = Integer.bitCount(he.takes);
    int below = SINS;
    // 8 has no prime but 2 in it, and a power of a fraction in lowest terms is in lowest terms, too.
    for (int halvings = 0; halvings < SINS && above % 2 == 0 && below % 2 == 0; halvings++) {
      above /= 2;
      below /= 2;
    }
    return power(what == 0 ? above : below, n);
  }

  public int seed(int v) {
    int was = mission.z;
    mission.z = v;
    return was;
  }

  // ---- texts

  public int feed(int bytes, int n) {
    if (n < 1 || n > 4) {
      return tell(BEYOND);
    }
    return reader.tape.append(bytes, n) ? reader.tape.length : tell(FULL);
  }

  public int wipe() {
    return reader.tape.empty();
  }

  public int text() {
    int answer = reader.readInto(seer.dreamOf(mission));
    if (answer > 0) {
      mission.becomeLike(seer.dream);
    }
    reader.tape.empty();
    return answer;
  }

  // ---- spots, sheets

  public int hold(int spot, int priest) {
    if (!within(spot, SPOTS - 1) || priest < Mission.NOBODY || priest >= mission.priests) {
      return tell(BEYOND);
    }
    mission.spots[spot] = priest;
    return 1;
  }

  public int as(int spot, int kind) {
    if (!within(spot, SPOTS - 1) || !Priest.isKind(kind)) {
      return tell(BEYOND);
    }
    int number = mission.spots[spot];
    Priest he = mission.at(number);
    if (he == null) {
      return tell(MISSING);
    }
    return he.isOneOf(kind) ? number : tell(KIND);
  }

  public int sheet(int s, int bits, int n) {
    Sheet page = sheetAt(s);
    if (page == null || !Sheet.mayHaveBits(bits)) {
      return tell(BEYOND);
    }
    if (n < 0) {
      return tell(SIZE);
    }
    if (n > MOST_NUMBERS) {
      return tell(BEYOND);
    }
    page.begin(bits, n);
    return page.size;
  }

  public int write(int s, int i, int v) {
    Sheet page = sheetAt(s);
    int wrong = wrongSheet(page);
    if (page == null || wrong != 0) {
      return tell(wrong);
    }
    return page.put(i, v) ? 1 : tell(BEYOND);
  }

  public int copy(int s, int from, int t, int to, int n) {
    Sheet source = sheetAt(s);
    Sheet target = sheetAt(t);
    if (source == null || target == null) {
      return tell(BEYOND);
    }
    if (source.isMissing() || target.isMissing()) {
      return tell(MISSING);
    }
    if (source.bits != target.bits) {
      return tell(KIND);
    }
    if (!source.has(from, n) || !target.has(to, n)) {
      return tell(BEYOND);
    }
    System.arraycopy(source.numbers, from, target.numbers, to, n);
    return n;
  }

  public int load(int s) {
    Sheet page = sheetAt(s);
    int wrong = wrongSheet(page);
    if (page == null || wrong != 0) {
      return tell(wrong);
    }
    int came = 0;
    while (came < PLACES && came < page.size && isConfession(page.numbers[came])) {
      mission.list[came] = page.numbers[came];
      came++;
    }
    return came;
  }

  public int judge(int s) {
    Sheet page = sheetAt(s);
    int wrong = wrongSheet(page);
    if (page == null || wrong != 0) {
      return tell(wrong);
    }
    for (int i = 0; i < page.size; i++) {
      Priest he = mission.at(i);
      if (he == null || page.numbers[i] != he.knows) {
        return 1 + i;
      }
    }
    return 0;
  }

  // ---- images

  public int image() {
    imageKept.becomeLike(mission);
    hasImage = true;
    return 1;
  }

  public int undo() {
    if (!hasImage) {
      return tell(NONE);
    }
    mission.becomeLike(imageKept);
    return mission.day;
  }

  public int tear() {
    int torn = hasImage ? 1 : 0;
    hasImage = false;
    return torn;
  }

  public int count(int what) {
    switch (what) {
      case 0: return mission.day;
      case 1: return mission.priests;
      case 2: return Integer.bitCount(mission.out);
      case 3: return mission.kept;
      case 4: return mission.sumTogether(Priest.ILL);
      case 5: return reader.tape.length;
      case 6: return mission.z;
      case 7: return mission.spotsInUse();
      default: return tell(BEYOND);
    }
  }

  public int status(int which) {
    if (which == -1) {
      int all = 0;
      for (int finding = 0; finding < FINDINGS; finding++) {
        all += told[finding];
      }
      return all;
    }
    return within(which, FINDINGS - 1) ? told[which] : tell(BEYOND);
  }

  // ---- findings

  private int tell(int finding) {
    int place = BEYOND - finding;
    if (within(place, FINDINGS - 1)) {
      told[place]++;
    }
    return finding;
  }

  /** Searches answer something below 0 where there is nothing to be found. */
  private int orNone(int found) {
    return found < 0 ? tell(NONE) : found;
  }

  private Sheet sheetAt(int s) {
    return within(s, SHEETS - 1) ? sheets[s] : null;
  }

  private static int wrongSheet(Sheet page) {
    if (page == null) {
      return BEYOND;
    }
    return page.isMissing() ? MISSING : 0;
  }

  /** The sheet is asked before the priest, as the promises tell their findings. */
  private int wrongFulness(Sheet page, int priest) {
    int wrong = wrongSheet(page);
    if (wrong != 0) {
      return wrong;
    }
    return mission.at(priest) == null ? BEYOND : 0;
  }

  // ---- numbers

  private static boolean within(int v, int most) {
    return v >= 0 && v <= most;
  }

  private static boolean isConfession(int number) {
    return number >= 0 && sinOf(number) < SINS && wordsOf(number) <= MOST_WORDS;
  }

  private static int confessionOf(int sin, int words) {
    return 100 * sin + words;
  }

  private static int sinOf(int confession) {
    return confession / 100;
  }

  private static int wordsOf(int confession) {
    return confession % 100;
  }

  /** KIND and TAKES are as they were behind any day, and the rest of what of() tells isn't asked ahead. */
  private static boolean changesByDays(int what) {
    return what == Priest.STUFFED || what == Priest.KNOWS || what == Priest.HEARD || what == Priest.ILL
        || what == Priest.HOLDS;
  }

  private static long power(int base, int exponent) {
    long product = 1;
    for (int i = 0; i < exponent; i++) {
      product *= base;
    }
    return product;
  }

  /** One priest, and what his kind makes of him. */
  private static final class Priest {

    private static final int PLAIN = 0;
    private static final int CURATE = 1;
    private static final int ENVIOUS = 2;
    private static final int SWEET = 3;
    private static final int SAINT = 4;
    private static final int BISHOP = 5;
    private static final int HUNGRY = 6;
    private static final int KINDS = 7;
    /** Of each kind the one that it is under; a plain priest is under none. */
    private static final int[] ABOVE = {-1, PLAIN, PLAIN, CURATE, SWEET, PLAIN, ENVIOUS};

    private static final int WHAT_KIND = 0;
    private static final int STUFFED = 1;
    private static final int TAKES = 2;
    private static final int KNOWS = 3;
    private static final int HEARD = 4;
    private static final int ILL = 5;
    private static final int HOLDS = 6;
    private static final int ROOM = 7;
    private static final int DIGESTS = 8;
    private static final int KEEPS = 9;

    private static final int PLAIN_HOLDS = 60;
    private static final int CURATE_HOLDS = PLAIN_HOLDS - 20;
    private static final int BISHOP_HOLDS_AT_MOST = 99;
    private static final int PLAIN_DIGESTS = 5;
    private static final int ENVIOUS_DIGESTS = PLAIN_DIGESTS + 3;
    private static final int ENVIED_SIN = 3;

    private int kind;
    private int stuffed;
    private int takes;
    private int knows;
    private int heard;
    private int ill;

    static boolean isKind(int kind) {
      return within(kind, KINDS - 1);
    }

    static boolean mayBe(int what, int v) {
      switch (what) {
        case WHAT_KIND: return isKind(v);
        case STUFFED: return within(v, MOST_STUFFED);
        case TAKES:
        case KNOWS: return within(v, ALL_SINS);
        case HEARD:
        case ILL: return within(v, MOST_COUNTED);
        default: return false;
      }
    }

    void begin(int newKind, int sins) {
      kind = newKind;
      stuffed = 0;
      takes = sins;
      knows = 0;
      heard = 0;
      ill = 0;
    }

    void becomeLike(Priest other) {
      kind = other.kind;
      stuffed = other.stuffed;
      takes = other.takes;
      knows = other.knows;
      heard = other.heard;
      ill = other.ill;
    }

    void put(int what, int v) {
      switch (what) {
        case WHAT_KIND: kind = v; break;
        case STUFFED: stuffed = v; break;
        case TAKES: takes = v; break;
        case KNOWS: knows = v; break;
        case HEARD: heard = v; break;
        case ILL: ill = v; break;
        default: break;
      }
    }

    boolean isOneOf(int wanted) {
      int one = kind;
      for (int steps = 0; steps < KINDS && isKind(one); steps++) {
        if (one == wanted) {
          return true;
        }
        one = ABOVE[one];
      }
      return false;
    }

    int holding() {
      int sweetHolds = CURATE_HOLDS + 5 * Integer.bitCount(knows);
      int enviousHolds = knows == 0 ? PLAIN_HOLDS / 2 : PLAIN_HOLDS;
      switch (kind) {
        case CURATE: return CURATE_HOLDS;
        case SWEET: return sweetHolds;
        case SAINT: return 2 * sweetHolds;
        case ENVIOUS: return enviousHolds;
        case HUNGRY: return enviousHolds + 40;
        case BISHOP: return Math.min(PLAIN_HOLDS + heard, BISHOP_HOLDS_AT_MOST);
        default: return PLAIN_HOLDS;
      }
    }

    int swelling(int sin, int words, int water) {
      int watered = Math.max(words - water, 0);
      int envied = sin == ENVIED_SIN ? words / 3 : words;
      switch (kind) {
        case CURATE: return watered;
        case SWEET:
        case SAINT: return sin % 2 == 0 ? watered + 5 : watered;
        case ENVIOUS: return envied;
        case HUNGRY: return envied / 2;
        case BISHOP: return (knows >> sin & 1) != 0 ? words + 10 : words;
        default: return words;
      }
    }

    int digesting(int water, int day) {
      switch (kind) {
        case CURATE: return PLAIN_DIGESTS + water;
        case SWEET: return Math.max(PLAIN_DIGESTS + water - 3, 0);
        case SAINT: return 1;
        case ENVIOUS: return ENVIOUS_DIGESTS;
        case HUNGRY: return 2 * ENVIOUS_DIGESTS;
        case BISHOP: return day % 7 == 6 ? 0 : PLAIN_DIGESTS;
        default: return PLAIN_DIGESTS;
      }
    }

    boolean keepsSilent() {
      return kind == SAINT || kind == BISHOP && Integer.bitCount(knows) < 4;
    }

    void eat(int sin, int words, int water) {
      // A bishop swells by what he knew before.
      stuffed = Math.min(stuffed + swelling(sin, words, water), MOST_STUFFED);
      knows |= 1 << sin;
      heard = Math.min(heard + 1, MOST_COUNTED);
    }

    void fallIll() {
      knows = 0;
      stuffed = 0;
      ill = Math.min(ill + 1, MOST_COUNTED);
    }
  }

  /** All that an image keeps. */
  private static final class Mission {

    private static final int NOBODY = -1;

    private int day = 0;
    private int water = 2;
    private int out = 0;
    private int kept = 0;
    private int z = 1;
    private int priests = 0;
    private final int[] list = new int[PLACES];
    private final int[] spots = new int[SPOTS];
    private final Priest[] row = new Priest[MOST_PRIESTS];

    Mission() {
      for (int spot = 0; spot < SPOTS; spot++) {
        spots[spot] = NOBODY;
      }
      for (int p = 0; p < MOST_PRIESTS; p++) {
        row[p] = new Priest();
      }
    }

    void becomeLike(Mission other) {
      day = other.day;
      water = other.water;
      out = other.out;
      kept = other.kept;
      z = other.z;
      priests = other.priests;
      System.arraycopy(other.list, 0, list, 0, PLACES);
      System.arraycopy(other.spots, 0, spots, 0, SPOTS);
      for (int p = 0; p < priests; p++) {
        Priest his = other.at(p);
        Priest mine = at(p);
        if (his != null && mine != null) {
          mine.becomeLike(his);
        }
      }
    }

    /** The priest of a number, or null where there is none. */
    Priest at(int number) {
      return number >= 0 && number < priests && number < MOST_PRIESTS ? row[number] : null;
    }

    int welcome(int kind, int sins) {
      if (priests >= MOST_PRIESTS) {
        return NOBODY;
      }
      int number = priests;
      priests++;
      Priest he = at(number);
      if (he != null) {
        he.begin(kind, sins);
      }
      return number;
    }

    int tellOf(Priest he, int what) {
      switch (what) {
        case Priest.WHAT_KIND: return he.kind;
        case Priest.STUFFED: return he.stuffed;
        case Priest.TAKES: return he.takes;
        case Priest.KNOWS: return he.knows;
        case Priest.HEARD: return he.heard;
        case Priest.ILL: return he.ill;
        case Priest.HOLDS: return he.holding();
        case Priest.ROOM: return he.holding() - he.stuffed;
        case Priest.DIGESTS: return he.digesting(water, day);
        default: return he.keepsSilent() ? 1 : 0;
      }
    }

    int placeToday() {
      return Math.floorMod(day, PLACES);
    }

    int draw() {
      z = z * 1103515245 + 12345;
      return z >>> 8;
    }

    int takersOf(int sin) {
      int takers = 0;
      for (int p = 0; p < priests; p++) {
        Priest he = at(p);
        if (he != null && (he.takes >> sin & 1) != 0) {
          takers |= 1 << p;
        }
      }
      return takers;
    }

    /** Of a set of priests the one with most room, be it below 0. */
    int hungriestOf(int group) {
      int hungriest = NOBODY;
      int most = 0;
      for (int p = 0; p < priests; p++) {
        Priest he = at(p);
        if (he != null && (group >> p & 1) != 0) {
          int room = he.holding() - he.stuffed;
          if (hungriest == NOBODY || room > most) {
            hungriest = p;
            most = room;
          }
        }
      }
      return hungriest;
    }

    int bury(int dead, Priest he) {
      int hungriest = hungriestOf(~(1 << dead));
      Priest heir = at(hungriest);
      if (heir == null) {
        return NOBODY;
      }
      heir.knows |= he.knows;
      he.knows = 0;
      he.stuffed = 0;
      he.takes = 0;
      return hungriest;
    }

    void passDays(int n) {
      for (int days = 0; days < n; days++) {
        passDay();
      }
    }

    void passDay() {
      int confession = list[placeToday()];
      int sin = sinOf(confession);
      int words = wordsOf(confession);
      Priest taker = words > 0 ? at(hungriestOf(takersOf(sin))) : null;
      if (taker != null) {
        taker.eat(sin, words, water);
      } else if (words > 0) {
        kept = Math.min(kept + 1, MOST_KEPT);
      }
      letTheOverfullFallIll();
      letAllDigest();
      day = Math.min(day + 1, MOST_DAY);
    }

    private void letTheOverfullFallIll() {
      for (int p = 0; p < priests; p++) {
        Priest he = at(p);
        if (he != null && he.stuffed > he.holding()) {
          out |= he.keepsSilent() ? 0 : he.knows;
          he.fallIll();
        }
      }
    }

    private void letAllDigest() {
      for (int p = 0; p < priests; p++) {
        Priest he = at(p);
        if (he != null) {
          he.stuffed = Math.max(he.stuffed - he.digesting(water, day), 0);
        }
      }
    }

    int sinsTogether(int what) {
      int sins = 0;
      for (int p = 0; p < priests; p++) {
        Priest he = at(p);
        sins |= he == null ? 0 : tellOf(he, what);
      }
      return sins;
    }

    int sumTogether(int what) {
      int sum = 0;
      for (int p = 0; p < priests; p++) {
        Priest he = at(p);
        sum += he == null ? 0 : tellOf(he, what);
      }
      return sum;
    }

    int fullest() {
      int fullest = NOBODY;
      int most = -1;
      for (int p = 0; p < priests; p++) {
        Priest he = at(p);
        if (he != null && he.stuffed > most) {
          fullest = p;
          most = he.stuffed;
        }
      }
      return fullest;
    }

    int spotsInUse() {
      int inUse = 0;
      for (int spot = 0; spot < SPOTS; spot++) {
        if (spots[spot] != NOBODY) {
          inUse++;
        }
      }
      return inUse;
    }

    private boolean takeTogether(int group, int sins) {
      int taken = 0;
      for (int p = 0; p < priests; p++) {
        Priest he = at(p);
        if (he != null && (group >> p & 1) != 0) {
          taken |= he.takes;
        }
      }
      return (sins & ~taken) == 0;
    }

    int fewestTaking(int sins) {
      for (int size = 0; size <= priests; size++) {
        for (int group = 0; group < 1 << priests; group++) {
          if (Integer.bitCount(group) == size && takeTogether(group, sins)) {
            return group;
          }
        }
      }
      return NOBODY;
    }
  }

  /** Lives days in a mission of its own, so that nothing changes in the one that it is asked about. */
  private static final class Seer {

    private static final int FARTHEST = 200;
    private static final int NEVER = -1;
    private static final int ANY = -1;

    private final Mission dream = new Mission();

    Mission dreamOf(Mission mission) {
      dream.becomeLike(mission);
      return dream;
    }

    int tellBehind(Mission mission, int priest, int what, int n) {
      dream.becomeLike(mission);
      dream.passDays(n);
      Priest he = dream.at(priest);
      return he == null ? NEVER : dream.tellOf(he, what);
    }

    int daysTillIll(Mission mission, int priest) {
      dream.becomeLike(mission);
      Priest he = dream.at(priest);
      if (he == null) {
        return NEVER;
      }
      int before = he.ill;
      for (int days = 1; days <= FARTHEST; days++) {
        dream.passDay();
        if (he.ill > before) {
          return days;
        }
      }
      return NEVER;
    }

    int daysTillOut(Mission mission, int sin) {
      dream.becomeLike(mission);
      for (int days = 0; days <= FARTHEST; days++) {
        if ((dream.out >> sin & 1) != 0) {
          return days;
        }
        dream.passDay();
      }
      return NEVER;
    }

    int daysTillWise(Mission mission, int priest, int v) {
      dream.becomeLike(mission);
      Priest he = dream.at(priest);
      for (int days = 0; he != null && days <= FARTHEST; days++) {
        if (Integer.bitCount(he.knows) >= v) {
          return days;
        }
        dream.passDay();
      }
      return NEVER;
    }

    int daysTillStuffed(Mission mission, int priest, int v) {
      dream.becomeLike(mission);
      Priest he = dream.at(priest);
      for (int days = 0; he != null && days <= FARTHEST; days++) {
        if (he.stuffed >= v) {
          return days;
        }
        dream.passDay();
      }
      return NEVER;
    }

    int mostHarmlessWords(Mission mission, int place, int n) {
      if (!within(place, PLACES - 1)) {
        return NEVER;
      }
      int sin = sinOf(mission.list[place]);
      int before = mission.sumTogether(Priest.ILL);
      for (int words = MOST_WORDS; words >= 0; words--) {
        dream.becomeLike(mission);
        dream.list[place] = confessionOf(sin, words);
        dream.passDays(n);
        if (dream.sumTogether(Priest.ILL) == before) {
          return words;
        }
      }
      return NEVER;
    }

    /** What is out stays out, so the first that is more settles it. */
    private boolean staysQuiet(int n) {
      int before = dream.out;
      for (int days = 0; days < n; days++) {
        dream.passDay();
        if (dream.out != before) {
          return false;
        }
      }
      return true;
    }

    int leastQuietWater(Mission mission, int n) {
      for (int water = 0; water <= MOST_WATER; water++) {
        dream.becomeLike(mission);
        dream.water = water;
        if (staysQuiet(n)) {
          return water;
        }
      }
      return NEVER;
    }

    int sinToSpare(Mission mission, int priest, int n) {
      int spared = 0;
      int least = MOST_STUFFED + 1;
      for (int sin = 0; sin < SINS; sin++) {
        dream.becomeLike(mission);
        Priest he = dream.at(priest);
        if (he != null) {
          he.takes &= ~(1 << sin);
          dream.passDays(n);
          if (he.stuffed < least) {
            spared = sin;
            least = he.stuffed;
          }
        }
      }
      return spared;
    }

    int healthiestKind(Mission mission, int priest, int n) {
      int healthiest = 0;
      int least = MOST_PRIESTS * MOST_COUNTED + 1;
      for (int kind = 0; kind < Priest.KINDS; kind++) {
        dream.becomeLike(mission);
        Priest he = dream.at(priest);
        if (he != null) {
          he.kind = kind;
          dream.passDays(n);
          int together = dream.sumTogether(Priest.ILL);
          if (together < least) {
            healthiest = kind;
            least = together;
          }
        }
      }
      return healthiest;
    }

    private void makeFast(int group) {
      for (int p = 0; p < dream.priests; p++) {
        Priest he = dream.at(p);
        if (he != null && (group >> p & 1) != 0) {
          he.takes = 0;
        }
      }
    }

    int fewestFasting(Mission mission, int n) {
      for (int size = 0; size <= mission.priests; size++) {
        for (int group = 0; group < 1 << mission.priests; group++) {
          if (Integer.bitCount(group) == size) {
            dream.becomeLike(mission);
            makeFast(group);
            if (staysQuiet(n)) {
              return group;
            }
          }
        }
      }
      return NEVER;
    }

    private boolean dreamsAsTold(int priest, Sheet page) {
      Priest he = dream.at(priest);
      for (int days = 0; he != null && page != null && days < page.size; days++) {
        if (days > 0) {
          dream.passDay();
        }
        int told = page.numbers[days];
        if (told != ANY && told != he.stuffed) {
          return false;
        }
      }
      return true;
    }

    /** One bit for each number of words. */
    long fittingWords(Mission mission, int priest, Sheet page) {
      long fitting = 0;
      int place = mission.placeToday();
      int sin = sinOf(mission.list[place]);
      for (int words = 0; words <= MOST_WORDS; words++) {
        dream.becomeLike(mission);
        dream.list[place] = confessionOf(sin, words);
        if (dreamsAsTold(priest, page)) {
          fitting |= 1L << words;
        }
      }
      return fitting;
    }

    int fittingKinds(Mission mission, int priest, Sheet page) {
      int fitting = 0;
      for (int kind = 0; kind < Priest.KINDS; kind++) {
        dream.becomeLike(mission);
        Priest he = dream.at(priest);
        if (he != null) {
          he.kind = kind;
          if (dreamsAsTold(priest, page)) {
            fitting |= 1 << kind;
          }
        }
      }
      return fitting;
    }
  }

  /** A row of numbers of so many bits; of 0 bits it is missing. */
  private static final class Sheet {

    private int bits = 0;
    private int size = 0;
    private final int[] numbers = new int[MOST_NUMBERS];

    static boolean mayHaveBits(int bits) {
      return bits == 0 || bits == 8 || bits == 16 || bits == 32;
    }

    boolean isMissing() {
      return bits == 0;
    }

    void begin(int newBits, int n) {
      bits = newBits;
      size = newBits == 0 ? 0 : Math.min(Math.max(n, 0), MOST_NUMBERS);
      for (int i = 0; i < MOST_NUMBERS; i++) {
        numbers[i] = 0;
      }
    }

    boolean put(int i, int v) {
      if (i < 0 || i >= size) {
        return false;
      }
      numbers[i] = cut(v);
      return true;
    }

    private int cut(int v) {
      switch (bits) {
        case 8: return (byte) v;
        case 16: return (short) v;
        default: return v;
      }
    }

    /** Asked by a difference, since from and n together may be more than an int holds. */
    boolean has(int from, int n) {
      return from >= 0 && n >= 0 && n <= size && from <= size - n;
    }
  }

  /** Bytes that came in and are not read yet. */
  private static final class Tape {

    private final byte[] bytes = new byte[MOST_BYTES];
    private int length = 0;

    boolean append(int number, int n) {
      if (n < 0 || n > MOST_BYTES - length) {
        return false;
      }
      for (int left = n - 1; left >= 0; left--) {
        bytes[length] = (byte) (number >>> 8 * left);
        length++;
      }
      return true;
    }

    int empty() {
      int had = length;
      length = 0;
      return had;
    }

    /** The byte at a place as 0 to 255, or -1 behind the end. */
    int byteAt(int place) {
      return place >= 0 && place < length && place < MOST_BYTES ? bytes[place] & 255 : -1;
    }
  }

  /** Reads the tape token by token; a token that can't stand where it is read is left as the one at hand. */
  private static final class Reader {

    private static final int END = 0;
    private static final int WORD = 1;
    private static final int NUMBER = 2;
    private static final int SIGN = 3;
    private static final int STRAY = 4;
    /** Above each number that a text may tell, and low enough to be grown by a digit. */
    private static final int TOO_MUCH = 10000;

    private final Tape tape = new Tape();
    private int token = END;
    private int start = 0;
    private int end = 0;
    private int value = 0;
    private int got = 0;

    /** How many items the mission took in; -1 less the fault, if there is one (the mission is then half changed). */
    int readInto(Mission mission) {
      end = 0;
      advance();
      for (int items = 1; items <= MOST_BYTES; items++) {
        if (!readItem(mission)) {
          return -1 - start;
        }
        if (token == END) {
          return items;
        }
        if (token != SIGN) {
          return -1 - start;
        }
        advance();
      }
      return -1 - start;
    }

    private boolean readItem(Mission mission) {
      if (isWord("told")) {
        return readTold(mission);
      }
      if (isWord("water")) {
        return readWater(mission);
      }
      return isWord("out") ? readOut(mission) : readPriest(mission);
    }

    private boolean readWater(Mission mission) {
      advance();
      if (!readNumber(MOST_WATER)) {
        return false;
      }
      mission.water = got;
      return true;
    }

    private boolean readOut(Mission mission) {
      advance();
      if (!readNumber(ALL_SINS)) {
        return false;
      }
      mission.out = got;
      return true;
    }

    private boolean readTold(Mission mission) {
      advance();
      if (!readNumber(PLACES - 1)) {
        return false;
      }
      int place = got;
      if (!readNumber(SINS - 1)) {
        return false;
      }
      int sin = got;
      if (!readNumber(MOST_WORDS) || !within(place, PLACES - 1)) {
        return false;
      }
      mission.list[place] = confessionOf(sin, got);
      return true;
    }

    private boolean readPriest(Mission mission) {
      int kind = kindAtHand();
      Priest he = kind < 0 ? null : mission.at(mission.welcome(kind, ALL_SINS));
      if (he == null) {
        return false;
      }
      advance();
      return readPerhaps("takes", he, Priest.TAKES)
          && readPerhaps("knows", he, Priest.KNOWS)
          && readPerhaps("stuffed", he, Priest.STUFFED);
    }

    /** False only if the word stands there without a number that may follow it. */
    private boolean readPerhaps(String word, Priest he, int what) {
      if (!isWord(word)) {
        return true;
      }
      advance();
      if (!readNumber(what == Priest.STUFFED ? MOST_STUFFED : ALL_SINS)) {
        return false;
      }
      he.put(what, got);
      return true;
    }

    private int kindAtHand() {
      for (int kind = 0; kind < Priest.KINDS; kind++) {
        if (isWord(wordOf(kind))) {
          return kind;
        }
      }
      return -1;
    }

    private static String wordOf(int kind) {
      switch (kind) {
        case Priest.CURATE: return "curate";
        case Priest.ENVIOUS: return "envious";
        case Priest.SWEET: return "sweet";
        case Priest.SAINT: return "saint";
        case Priest.BISHOP: return "bishop";
        case Priest.HUNGRY: return "hungry";
        default: return "priest";
      }
    }

    private boolean isWord(String word) {
      if (token != WORD || word.length() != end - start) {
        return false;
      }
      for (int i = 0; i < word.length(); i++) {
        if (tape.byteAt(start + i) != word.charAt(i)) {
          return false;
        }
      }
      return true;
    }

    private boolean readNumber(int most) {
      if (token != NUMBER || value > most) {
        return false;
      }
      got = value;
      advance();
      return true;
    }

    private void advance() {
      start = end;
      while (start < MOST_BYTES && tape.byteAt(start) == ' ') {
        start++;
      }
      end = start;
      int first = tape.byteAt(start);
      if (first < 0) {
        token = END;
      } else if (isLetter(first)) {
        token = WORD;
        while (end < MOST_BYTES && isLetter(tape.byteAt(end))) {
          end++;
        }
      } else if (isDigit(first)) {
        token = NUMBER;
        value = 0;
        while (end < MOST_BYTES && isDigit(tape.byteAt(end))) {
          value = Math.min(10 * value + tape.byteAt(end) - '0', TOO_MUCH);
          end++;
        }
      } else {
        token = first == ';' ? SIGN : STRAY;
        end++;
      }
    }

    private static boolean isLetter(int b) {
      return b >= 'a' && b <= 'z';
    }

    private static boolean isDigit(int b) {
      return b >= '0' && b <= '9';
    }
  }
}
