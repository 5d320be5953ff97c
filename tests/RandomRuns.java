import java.math.BigInteger;
import java.nio.charset.StandardCharsets;
import java.util.ArrayList;
import java.util.Arrays;
import java.util.List;
import java.util.Random;
import java.util.TreeSet;
import java.util.regex.Matcher;
import java.util.regex.Pattern;

/** Runs of 512 random calls, each answer against a second telling of the document, written in another way. */
public final class RandomRuns {

  private static final int RUNS = 1200;
  private static final int CALLS = 512;

  // ---- the second telling: kinds as classes, sets as sets, findings thrown

  static final class Finding extends RuntimeException {
    private static final long serialVersionUID = 1;
    final int which;

    Finding(int which) {
      super(null, null, false, false);
      this.which = which;
    }
  }

  static void beyondUnless(boolean fine) {
    if (!fine) {
      throw new Finding(0);
    }
  }

  static void unless(boolean fine, int which) {
    if (!fine) {
      throw new Finding(which);
    }
  }

  static class Plain {
    int stuffed;
    int heard;
    int ill;
    TreeSet<Integer> takes = new TreeSet<>();
    TreeSet<Integer> knows = new TreeSet<>();

    int holds() { return 60; }
    int swells(int sin, int words, int water) { return words; }
    int digests(int water, int day) { return 5; }
    boolean keeps() { return false; }
  }

  static class Curate extends Plain {
    int holds() { return super.holds() - 20; }
    int swells(int sin, int words, int water) {
      int swelling = super.swells(sin, words, water) - water;
      return swelling < 0 ? 0 : swelling;
    }
    int digests(int water, int day) { return super.digests(water, day) + water; }
  }

  static class Sweet extends Curate {
    int holds() { return super.holds() + 5 * knows.size(); }
    int swells(int sin, int words, int water) {
      return super.swells(sin, words, water) + (Arrays.asList(0, 2, 4, 6).contains(sin) ? 5 : 0);
    }
    int digests(int water, int day) {
      int digested = super.digests(water, day) - 3;
      return digested < 0 ? 0 : digested;
    }
  }

  static class Saint extends Sweet {
    int holds() { return super.holds() + super.holds(); }
    int digests(int water, int day) { return 1; }
    boolean keeps() { return true; }
  }

  static class Envious extends Plain {
    int holds() { return knows.isEmpty() ? super.holds() / 2 : super.holds(); }
    int swells(int sin, int words, int water) {
      int swelling = super.swells(sin, words, water);
      return sin == 3 ? swelling / 3 : swelling;
    }
    int digests(int water, int day) { return super.digests(water, day) + 3; }
  }

  static class Hungry extends Envious {
    int holds() { return super.holds() + 40; }
    int swells(int sin, int words, int water) { return super.swells(sin, words, water) / 2; }
    int digests(int water, int day) { return super.digests(water, day) * 2; }
  }

  static class Bishop extends Plain {
    int holds() {
      int both = super.holds() + heard;
      return both > 99 ? 99 : both;
    }
    int swells(int sin, int words, int water) {
      return super.swells(sin, words, water) + (knows.contains(sin) ? 10 : 0);
    }
    int digests(int water, int day) { return day % 7 == 6 ? 0 : super.digests(water, day); }
    boolean keeps() { return knows.size() < 4; }
  }

  static final List<Class<? extends Plain>> KINDS = List.of(
      Plain.class, Curate.class, Envious.class, Sweet.class, Saint.class, Bishop.class, Hungry.class);
  static final List<String> KIND_WORDS = List.of("priest", "curate", "envious", "sweet", "saint", "bishop", "hungry");

  static Plain born(int kind) {
    switch (kind) {
      case 0: return new Plain();
      case 1: return new Curate();
      case 2: return new Envious();
      case 3: return new Sweet();
      case 4: return new Saint();
      case 5: return new Bishop();
      default: return new Hungry();
    }
  }

  static Plain ofKind(Plain old, int kind) {
    Plain one = born(kind);
    one.stuffed = old.stuffed;
    one.heard = old.heard;
    one.ill = old.ill;
    one.takes = new TreeSet<>(old.takes);
    one.knows = new TreeSet<>(old.knows);
    return one;
  }

  static int kindOf(Plain one) {
    return KINDS.indexOf(one.getClass());
  }

  static TreeSet<Integer> setOf(int bits) {
    TreeSet<Integer> set = new TreeSet<>();
    for (int i = 0; i < 8; i++) {
      if ((bits & (1 << i)) != 0) {
        set.add(i);
      }
    }
    return set;
  }

  static int bitsOf(Iterable<Integer> set) {
    int bits = 0;
    for (int i : set) {
      bits += 1 << i;
    }
    return bits;
  }

  static boolean confession(int c) {
    return c >= 0 && c / 100 <= 7 && c % 100 <= 40;
  }

  static final class World {
    int day;
    int water = 2;
    int kept;
    int z = 1;
    TreeSet<Integer> out = new TreeSet<>();
    int[] list = new int[6];
    List<Plain> priests = new ArrayList<>();
    int[] spots = {-1, -1, -1, -1, -1, -1, -1, -1, -1, -1};

    World twin() {
      World w = new World();
      w.day = day;
      w.water = water;
      w.kept = kept;
      w.z = z;
      w.out = new TreeSet<>(out);
      w.list = list.clone();
      w.spots = spots.clone();
      for (Plain p : priests) {
        w.priests.add(ofKind(p, kindOf(p)));
      }
      return w;
    }

    int roomiest(List<Plain> some) {
      Plain best = null;
      for (Plain p : some) {
        if (best == null || p.holds() - p.stuffed > best.holds() - best.stuffed) {
          best = p;
        }
      }
      return best == null ? -1 : priests.indexOf(best);
    }

    int taker(int sin) {
      List<Plain> some = new ArrayList<>(priests);
      some.removeIf(p -> !p.takes.contains(sin));
      return roomiest(some);
    }

    void aDay() {
      int c = list[day % 6];
      if (c % 100 > 0) {
        int to = taker(c / 100);
        if (to < 0) {
          kept = Math.min(99999, kept + 1);
        } else {
          Plain p = priests.get(to);
          p.stuffed = Math.min(999, p.stuffed + p.swells(c / 100, c % 100, water));
          p.knows.add(c / 100);
          p.heard = Math.min(9999, p.heard + 1);
        }
      }
      for (Plain p : priests) {
        if (p.stuffed > p.holds()) {
          if (!p.keeps()) {
            out.addAll(p.knows);
          }
          p.knows.clear();
          p.stuffed = 0;
          p.ill = Math.min(9999, p.ill + 1);
        }
      }
      for (Plain p : priests) {
        p.stuffed = Math.max(0, p.stuffed - p.digests(water, day));
      }
      day = Math.min(99999, day + 1);
    }

    World behind(int n) {
      World w = twin();
      for (int i = 0; i < n; i++) {
        w.aDay();
      }
      return w;
    }

    int illness() {
      return priests.stream().mapToInt(p -> p.ill).sum();
    }
  }

  interface Asked {
    boolean holds(World w);
  }

  static final class Page {
    int bits;
    int[] numbers;
  }

  static final class Model {
    World w = new World();
    World image;
    StringBuilder tape = new StringBuilder();
    Page[] pages = new Page[4];
    int[] told = new int[7];

    Plain priestAt(int p) {
      beyondUnless(p >= 0 && p < w.priests.size());
      return w.priests.get(p);
    }

    static void in(int v, int from, int to) {
      beyondUnless(v >= from && v <= to);
    }

    Page pageAt(int s) {
      in(s, 0, 3);
      unless(pages[s] != null, 5);
      return pages[s];
    }

    int fewestDays(int from, Asked asked) {
      World one = w.behind(from);
      for (int d = from; d <= 200; d++) {
        if (asked.holds(one)) {
          return d;
        }
        one.aDay();
      }
      throw new Finding(3);
    }

    int drawn() {
      w.z = BigInteger.valueOf(w.z).multiply(BigInteger.valueOf(1103515245)).add(BigInteger.valueOf(12345)).intValue();
      return (int) ((w.z & 0xffffffffL) / 256);
    }

    static List<Integer> groupsBySize(int priests) {
      List<Integer> groups = new ArrayList<>();
      for (int g = 0; g < 1 << priests; g++) {
        groups.add(g);
      }
      groups.sort((a, b) -> setOf(a).size() != setOf(b).size() ? setOf(a).size() - setOf(b).size() : a - b);
      return groups;
    }

    static boolean fulness(World from, int priest, Page page) {
      World one = from.twin();
      for (int number : page.numbers) {
        if (number != -1 && number != one.priests.get(priest).stuffed) {
          return false;
        }
        one.aDay();
      }
      return true;
    }

    List<Integer> wordsAsTold(int s, int priest) {
      Page page = pageAt(s);
      priestAt(priest);
      List<Integer> some = new ArrayList<>();
      for (int v = 0; v <= 40; v++) {
        World one = w.twin();
        int place = one.day % 6;
        one.list[place] = one.list[place] / 100 * 100 + v;
        if (fulness(one, priest, page)) {
          some.add(v);
        }
      }
      return some;
    }

    long answer(String call, int[] a) {
      try {
        return act(call, a);
      } catch (Finding f) {
        told[f.which]++;
        return -1000001 - f.which;
      }
    }

    long act(String call, int[] a) {
      switch (call) {
        case "set": {
          in(a[0], 0, 1);
          in(a[1], 0, a[0] == 0 ? 9 : 255);
          int was = a[0] == 0 ? w.water : bitsOf(w.out);
          if (a[0] == 0) {
            w.water = a[1];
          } else {
            w.out = setOf(a[1]);
          }
          return was;
        }
        case "list": {
          in(a[0], 0, 5);
          beyondUnless(confession(a[1]));
          int was = w.list[a[0]];
          w.list[a[0]] = a[1];
          return was;
        }
        case "listed":
          in(a[0], 0, 5);
          return w.list[a[0]];
        case "priest": {
          in(a[0], 0, 6);
          in(a[1], 0, 255);
          unless(w.priests.size() < 8, 1);
          Plain p = born(a[0]);
          p.takes = setOf(a[1]);
          w.priests.add(p);
          return w.priests.size() - 1;
        }
        case "of":
          in(a[1], 0, 9);
          return ofPriest(w, priestAt(a[0]), a[1]);
        case "change": {
          Plain p = priestAt(a[0]);
          in(a[1], 0, 5);
          in(a[2], 0, new int[] {6, 999, 255, 255, 9999, 9999}[a[1]]);
          int was = ofPriest(w, p, a[1]);
          switch (a[1]) {
            case 0: w.priests.set(a[0], ofKind(p, a[2])); break;
            case 1: p.stuffed = a[2]; break;
            case 2: p.takes = setOf(a[2]); break;
            case 3: p.knows = setOf(a[2]); break;
            case 4: p.heard = a[2]; break;
            default: p.ill = a[2];
          }
          return was;
        }
        case "swells":
          beyondUnless(confession(a[1]));
          return priestAt(a[0]).swells(a[1] / 100, a[1] % 100, w.water);
        case "goes": {
          in(a[0], 0, 7);
          int to = w.taker(a[0]);
          unless(to >= 0, 3);
          return to;
        }
        case "dies": {
          Plain p = priestAt(a[0]);
          List<Plain> others = new ArrayList<>(w.priests);
          others.remove(p);
          int heir = w.roomiest(others);
          unless(heir >= 0, 3);
          w.priests.get(heir).knows.addAll(p.knows);
          p.knows.clear();
          p.takes.clear();
          p.stuffed = 0;
          return heir;
        }
        case "go":
          in(a[0], 1, 60);
          unless(w.day + a[0] <= 99999, 4);
          w = w.behind(a[0]);
          return bitsOf(w.out);
        case "now":
          return now(a[0]);
        default:
          return seen(call, a);
      }
    }

    static int ofPriest(World w, Plain p, int what) {
      switch (what) {
        case 0: return kindOf(p);
        case 1: return p.stuffed;
        case 2: return bitsOf(p.takes);
        case 3: return bitsOf(p.knows);
        case 4: return p.heard;
        case 5: return p.ill;
        case 6: return p.holds();
        case 7: return p.holds() - p.stuffed;
        case 8: return p.digests(w.water, w.day);
        default: return p.keeps() ? 1 : 0;
      }
    }

    long now(int what) {
      TreeSet<Integer> some = new TreeSet<>();
      switch (what) {
        case 0: return w.day;
        case 1: return bitsOf(w.out);
        case 2: return w.kept;
        case 3:
          w.priests.forEach(p -> some.addAll(p.knows));
          return bitsOf(some);
        case 4: return w.priests.stream().mapToInt(p -> p.stuffed).sum();
        case 5: {
          int most = w.priests.stream().mapToInt(p -> p.stuffed).max().orElse(-1);
          for (int p = 0; p < w.priests.size(); p++) {
            if (w.priests.get(p).stuffed == most) {
              return p;
            }
          }
          return -1;
        }
        case 6: return w.illness();
        case 7:
          w.priests.forEach(p -> some.addAll(p.takes));
          return 255 - bitsOf(some);
        default: throw new Finding(0);
      }
    }

    long seen(String call, int[] a) {
      switch (call) {
        case "ahead":
          priestAt(a[0]);
          beyondUnless(List.of(1, 3, 4, 5, 6).contains(a[1]));
          in(a[2], 0, 100);
          World later = w.behind(a[2]);
          return ofPriest(later, later.priests.get(a[0]), a[1]);
        case "ill": {
          int before = priestAt(a[0]).ill;
          return fewestDays(1, one -> one.priests.get(a[0]).ill > before);
        }
        case "out":
          in(a[0], 0, 7);
          return fewestDays(0, one -> one.out.contains(a[0]));
        case "wise":
          priestAt(a[0]);
          in(a[1], 0, 8);
          return fewestDays(0, one -> one.priests.get(a[0]).knows.size() >= a[1]);
        case "when":
          priestAt(a[0]);
          in(a[1], 0, 999);
          return fewestDays(0, one -> one.priests.get(a[0]).stuffed >= a[1]);
        case "wordsFor": {
          in(a[0], 0, 5);
          in(a[1], 0, 60);
          int best = -1;
          for (int v = 0; v <= 40; v++) {
            World one = w.twin();
            one.list[a[0]] = one.list[a[0]] / 100 * 100 + v;
            if (one.behind(a[1]).illness() == w.illness()) {
              best = v;
            }
          }
          unless(best >= 0, 3);
          return best;
        }
        case "waterFor":
          in(a[0], 0, 60);
          for (int v = 0; v <= 9; v++) {
            World one = w.twin();
            one.water = v;
            if (one.behind(a[0]).out.equals(w.out)) {
              return v;
            }
          }
          throw new Finding(3);
        case "spare": {
          priestAt(a[0]);
          in(a[1], 0, 60);
          int[] stuffed = new int[8];
          for (int sin = 0; sin < 8; sin++) {
            World one = w.twin();
            one.priests.get(a[0]).takes.remove(sin);
            stuffed[sin] = one.behind(a[1]).priests.get(a[0]).stuffed;
          }
          return firstLeast(stuffed);
        }
        case "kindFor": {
          priestAt(a[0]);
          in(a[1], 0, 60);
          int[] illness = new int[7];
          for (int kind = 0; kind < 7; kind++) {
            illness[kind] = asKind(a[0], kind).behind(a[1]).illness();
          }
          return firstLeast(illness);
        }
        case "fast":
          in(a[0], 0, 20);
          for (int group : groupsBySize(w.priests.size())) {
            World one = w.twin();
            setOf(group).forEach(p -> one.priests.get(p).takes.clear());
            if (one.behind(a[0]).out.equals(w.out)) {
              return group;
            }
          }
          throw new Finding(3);
        case "cover":
          in(a[0], 0, 255);
          for (int group : groupsBySize(w.priests.size())) {
            TreeSet<Integer> taken = new TreeSet<>();
            setOf(group).forEach(p -> taken.addAll(w.priests.get(p).takes));
            if (taken.containsAll(setOf(a[0]))) {
              return group;
            }
          }
          throw new Finding(3);
        default:
          return told(call, a);
      }
    }

    World asKind(int priest, int kind) {
      World one = w.twin();
      one.priests.set(priest, ofKind(one.priests.get(priest), kind));
      return one;
    }

    static int firstLeast(int[] row) {
      int least = Arrays.stream(row).min().getAsInt();
      int i = 0;
      while (row[i] != least) {
        i++;
      }
      return i;
    }

    long told(String call, int[] a) {
      switch (call) {
        case "fits":
          return wordsAsTold(a[0], a[1]).size();
        case "words": {
          List<Integer> some = wordsAsTold(a[0], a[1]);
          unless(!some.isEmpty(), 3);
          return some.get(0);
        }
        case "kinds": {
          Page page = pageAt(a[0]);
          priestAt(a[1]);
          List<Integer> some = new ArrayList<>();
          for (int kind = 0; kind < 7; kind++) {
            if (fulness(asKind(a[1], kind), a[1], page)) {
              some.add(kind);
            }
          }
          return bitsOf(some);
        }
        case "come":
          in(a[0], 1, 20);
          unless(w.day + a[0] <= 99999, 4);
          for (int i = 0; i < a[0]; i++) {
            int sin = drawn() % 8;
            int words = drawn() % 41;
            w.list[w.day % 6] = 100 * sin + words;
            w.aDay();
          }
          return bitsOf(w.out);
        case "odds": {
          Plain p = priestAt(a[0]);
          in(a[1], 0, 20);
          in(a[2], 0, 1);
          BigInteger above = BigInteger.valueOf(p.takes.size()).pow(a[1]);
          BigInteger below = BigInteger.valueOf(8).pow(a[1]);
          BigInteger common = above.gcd(below);
          return (a[2] == 0 ? above : below).divide(common).longValueExact();
        }
        case "seed": {
          int was = w.z;
          w.z = a[0];
          return was;
        }
        case "feed":
          in(a[1], 1, 4);
          unless(tape.length() + a[1] <= 120, 1);
          byte[] four = {(byte) (a[0] >> 24), (byte) (a[0] >> 16), (byte) (a[0] >> 8), (byte) a[0]};
          tape.append(new String(four, 4 - a[1], a[1], StandardCharsets.ISO_8859_1));
          return tape.length();
        case "wipe": {
          int had = tape.length();
          tape.setLength(0);
          return had;
        }
        case "text": {
          Text text = new Text(tape.toString(), w.twin());
          long answer = text.read();
          if (answer > 0) {
            w = text.w;
          }
          tape.setLength(0);
          return answer;
        }
        default:
          return sheets(call, a);
      }
    }

    long sheets(String call, int[] a) {
      switch (call) {
        case "hold":
          in(a[0], 0, 9);
          in(a[1], -1, w.priests.size() - 1);
          w.spots[a[0]] = a[1];
          return 1;
        case "as":
          in(a[0], 0, 9);
          in(a[1], 0, 6);
          unless(w.spots[a[0]] >= 0, 5);
          unless(KINDS.get(a[1]).isInstance(w.priests.get(w.spots[a[0]])), 2);
          return w.spots[a[0]];
        case "sheet":
          in(a[0], 0, 3);
          beyondUnless(List.of(0, 8, 16, 32).contains(a[1]));
          unless(a[2] >= 0, 6);
          beyondUnless(a[2] <= 40);
          pages[a[0]] = null;
          if (a[1] != 0) {
            pages[a[0]] = new Page();
            pages[a[0]].bits = a[1];
            pages[a[0]].numbers = new int[a[2]];
          }
          return a[1] == 0 ? 0 : a[2];
        case "write": {
          Page page = pageAt(a[0]);
          in(a[1], 0, page.numbers.length - 1);
          page.numbers[a[1]] = a[2] << (32 - page.bits) >> (32 - page.bits);
          return 1;
        }
        case "copy": {
          in(a[0], 0, 3);
          in(a[2], 0, 3);
          Page source = pageAt(a[0]);
          Page target = pageAt(a[2]);
          unless(source.bits == target.bits, 2);
          beyondUnless(a[1] >= 0 && a[3] >= 0 && a[4] >= 0);
          beyondUnless((long) a[1] + a[4] <= source.numbers.length && (long) a[3] + a[4] <= target.numbers.length);
          int[] was = source.numbers.clone();
          for (int i = 0; i < a[4]; i++) {
            target.numbers[a[3] + i] = was[a[1] + i];
          }
          return a[4];
        }
        case "load": {
          Page page = pageAt(a[0]);
          int came = 0;
          for (int number : page.numbers) {
            if (came == 6 || !confession(number)) {
              break;
            }
            w.list[came++] = number;
          }
          return came;
        }
        case "judge": {
          Page page = pageAt(a[0]);
          for (int i = 0; i < page.numbers.length; i++) {
            if (i >= w.priests.size() || bitsOf(w.priests.get(i).knows) != page.numbers[i]) {
              return 1 + i;
            }
          }
          return 0;
        }
        case "image":
          image = w.twin();
          return 1;
        case "undo":
          unless(image != null, 3);
          w = image.twin();
          return w.day;
        case "tear": {
          int torn = image == null ? 0 : 1;
          image = null;
          return torn;
        }
        case "count":
          in(a[0], 0, 7);
          return new long[] {w.day, w.priests.size(), w.out.size(), w.kept, w.illness(), tape.length(), w.z,
              Arrays.stream(w.spots).filter(p -> p >= 0).count()}[a[0]];
        case "status":
          in(a[0], -1, 6);
          return a[0] < 0 ? Arrays.stream(told).sum() : told[a[0]];
        default:
          throw new IllegalStateException(call);
      }
    }
  }

  static final class Text {
    final List<String> tokens = new ArrayList<>();
    final List<Integer> places = new ArrayList<>();
    final World w;
    int next = 0;

    Text(String tape, World w) {
      this.w = w;
      Matcher m = Pattern.compile(" +|[a-z]+|[0-9]+|.", Pattern.DOTALL).matcher(tape);
      while (m.find()) {
        if (!m.group().startsWith(" ")) {
          tokens.add(m.group());
          places.add(m.start());
        }
      }
      tokens.add("");
      places.add(tape.length());
    }

    static final class Fault extends RuntimeException {
      private static final long serialVersionUID = 1;

      Fault() {
        super(null, null, false, false);
      }
    }

    long read() {
      try {
        int items = 1;
        item();
        while (!tokens.get(next).isEmpty()) {
          needed(tokens.get(next).equals(";"));
          next++;
          item();
          items++;
        }
        return items;
      } catch (Fault f) {
        return -1 - places.get(next);
      }
    }

    void needed(boolean fine) {
      if (!fine) {
        throw new Fault();
      }
    }

    int number(int most) {
      String token = tokens.get(next);
      needed(token.matches("[0-9]+") && new BigInteger(token).compareTo(BigInteger.valueOf(most)) <= 0);
      next++;
      return new BigInteger(token).intValue();
    }

    boolean perhaps(String word) {
      boolean there = tokens.get(next).equals(word);
      next += there ? 1 : 0;
      return there;
    }

    void item() {
      if (perhaps("told")) {
        int place = number(5);
        int sin = number(7);
        w.list[place] = 100 * sin + number(40);
      } else if (perhaps("water")) {
        w.water = number(9);
      } else if (perhaps("out")) {
        w.out = setOf(number(255));
      } else {
        int kind = KIND_WORDS.indexOf(tokens.get(next));
        needed(kind >= 0 && w.priests.size() < 8);
        next++;
        Plain p = born(kind);
        w.priests.add(p);
        p.takes = setOf(perhaps("takes") ? number(255) : 255);
        p.knows = setOf(perhaps("knows") ? number(255) : 0);
        p.stuffed = perhaps("stuffed") ? number(999) : 0;
      }
    }
  }

  // ---- calls of both

  static long answer(RicePriests x, String call, int[] a) {
    switch (call) {
      case "set": return x.set(a[0], a[1]);
      case "list": return x.list(a[0], a[1]);
      case "listed": return x.listed(a[0]);
      case "priest": return x.priest(a[0], a[1]);
      case "of": return x.of(a[0], a[1]);
      case "change": return x.change(a[0], a[1], a[2]);
      case "swells": return x.swells(a[0], a[1]);
      case "goes": return x.goes(a[0]);
      case "dies": return x.dies(a[0]);
      case "go": return x.go(a[0]);
      case "now": return x.now(a[0]);
      case "ahead": return x.ahead(a[0], a[1], a[2]);
      case "ill": return x.ill(a[0]);
      case "out": return x.out(a[0]);
      case "wise": return x.wise(a[0], a[1]);
      case "when": return x.when(a[0], a[1]);
      case "wordsFor": return x.wordsFor(a[0], a[1]);
      case "waterFor": return x.waterFor(a[0]);
      case "spare": return x.spare(a[0], a[1]);
      case "kindFor": return x.kindFor(a[0], a[1]);
      case "fast": return x.fast(a[0]);
      case "cover": return x.cover(a[0]);
      case "fits": return x.fits(a[0], a[1]);
      case "words": return x.words(a[0], a[1]);
      case "kinds": return x.kinds(a[0], a[1]);
      case "come": return x.come(a[0]);
      case "odds": return x.odds(a[0], a[1], a[2]);
      case "seed": return x.seed(a[0]);
      case "feed": return x.feed(a[0], a[1]);
      case "wipe": return x.wipe();
      case "text": return x.text();
      case "hold": return x.hold(a[0], a[1]);
      case "as": return x.as(a[0], a[1]);
      case "sheet": return x.sheet(a[0], a[1], a[2]);
      case "write": return x.write(a[0], a[1], a[2]);
      case "copy": return x.copy(a[0], a[1], a[2], a[3], a[4]);
      case "load": return x.load(a[0]);
      case "judge": return x.judge(a[0]);
      case "image": return x.image();
      case "undo": return x.undo();
      case "tear": return x.tear();
      case "count": return x.count(a[0]);
      case "status": return x.status(a[0]);
      default: throw new IllegalStateException(call);
    }
  }

  /** Name, how often, and what each argument is like: c a confession, i any int, v a sheet's number, else the most. */
  static final String[] CALLS_LIKE = {
    "set 3 1 9", "set 2 1 255", "list 10 5 c", "listed 1 5", "priest 5 6 255", "of 8 7 9", "change 3 7 0 6",
    "change 4 7 1 99", "change 1 7 1 999", "change 3 7 2 255", "change 3 7 3 255", "change 1 7 4 9999",
    "change 1 7 5 9999", "change 1 7 5 9999", "change 2 7 4 45", "swells 6 7 c", "goes 4 7", "dies 1 7", "go 6 3",
    "go 1 60", "now 8 7", "ahead 5 7 6 20", "ahead 1 7 6 100", "ill 3 7", "out 3 7", "wise 3 7 8", "when 2 7 80",
    "when 1 7 999", "wordsFor 2 5 60", "waterFor 2 60", "spare 3 7 60", "kindFor 2 7 20", "fast 1 20", "cover 4 255",
    "fits 3 3 7", "words 3 3 7", "kinds 3 3 7", "come 3 5", "come 1 20", "odds 4 7 20 1", "seed 1 i", "wipe 0",
    "hold 4 9 7", "as 6 9 6", "sheet 3 3 b 6", "sheet 1 3 b 40", "write 6 3 5 v", "write 1 3 40 i",
    "copy 2 3 5 3 5 5", "copy 1 3 40 3 40 40", "load 2 3", "judge 3 3", "image 1", "undo 1", "tear 0", "count 4 7",
    "status 3 6", "feedText 4", "fullSheet 5", "knownSheet 2", "feed 1 i 4", "text 1",
  };

  static int wrong = 0;

  final RicePriests x = new RicePriests();
  final Model m = new Model();
  final Random r;
  final List<String> calls = new ArrayList<>();
  final int oddOnceIn;
  boolean failed = false;

  RandomRuns(Random r) {
    this.r = r;
    oddOnceIn = r.nextInt(6) == 0 ? 2 : 60;
  }

  void both(String call, int... a) {
    if (failed || calls.size() == CALLS) {
      return;
    }
    String text = call + Arrays.toString(a);
    calls.add(text);
    long want = m.answer(call, a);
    long got = answer(x, call, a);
    if (got != want) {
      failed = true;
      wrong++;
      System.out.println("random run: " + text + " answered " + got + ", due is " + want + " after " + calls);
    }
  }

  int argument(String like) {
    if (r.nextInt(oddOnceIn) == 0) {
      int[] odd = {-1, -2, 256, 1000, 10000, Integer.MAX_VALUE, Integer.MIN_VALUE, 41, 61, 101, 7, 8, r.nextInt()};
      return odd[r.nextInt(odd.length)];
    }
    switch (like) {
      case "c": return r.nextInt(40) == 0 ? r.nextInt(900) - 50 : 100 * r.nextInt(8) + r.nextInt(41);
      case "i": return r.nextInt();
      case "b": return new int[] {0, 8, 8, 16, 16, 32, 32, 32, 4, 64}[r.nextInt(10)];
      case "v": return r.nextInt(3) == 0 ? -1 : r.nextInt(3) == 0 ? r.nextInt(741) : r.nextInt(30);
      default: {
        int most = Integer.parseInt(like);
        int slips = r.nextInt(30);
        return slips == 0 ? most + 1 : slips == 1 ? -1 : slips == 2 ? most : r.nextInt(most + 1);
      }
    }
  }

  /** A text by the grammar, now and then with a slip. */
  String someText() {
    StringBuilder s = new StringBuilder();
    int items = 1 + r.nextInt(4);
    for (int i = 0; i < items; i++) {
      if (i > 0) {
        s.append(blank()).append(";").append(blank());
      }
      switch (r.nextInt(5)) {
        case 0: s.append("told").append(n(5)).append(n(7)).append(n(40)); break;
        case 1: s.append("water").append(n(9)); break;
        case 2: s.append("out").append(n(255)); break;
        default:
          s.append(KIND_WORDS.get(r.nextInt(7)));
          s.append(r.nextBoolean() ? " takes" + n(255) : "");
          s.append(r.nextBoolean() ? " knows" + n(255) : "");
          s.append(r.nextBoolean() ? " stuffed" + n(r.nextInt(10) == 0 ? 999 : 90) : "");
      }
    }
    if (r.nextInt(4) == 0) {
      int at = r.nextInt(s.length());
      switch (r.nextInt(3)) {
        case 0: s.deleteCharAt(at); break;
        case 1: s.setCharAt(at, (char) r.nextInt(256)); break;
        default: s.insert(at, "; 59\u00e9Za".charAt(r.nextInt(7)));
      }
    }
    return blank() + s + blank();
  }

  String blank() {
    return "  ".substring(r.nextInt(3));
  }

  String n(int most) {
    int v = r.nextInt(25) == 0 ? most + 1 : r.nextInt(12) == 0 ? most : r.nextInt(most + 1);
    String zeros = r.nextInt(15) == 0 ? "00000".substring(r.nextInt(5)) : "";
    return (r.nextBoolean() ? " " : "  ") + zeros + v;
  }

  void feedText() {
    byte[] bytes = someText().getBytes(StandardCharsets.ISO_8859_1);
    both("wipe");
    for (int i = 0; i < bytes.length; i += 4) {
      int n = Math.min(4, bytes.length - i);
      int number = r.nextInt();
      for (int j = 0; j < n; j++) {
        number = number << 8 | bytes[i + j] & 255;
      }
      both("feed", number, n);
    }
    both("text");
  }

  /** A sheet that tells how stuffed a priest will be for some words, with some places left open. */
  void fullSheet() {
    if (m.w.priests.isEmpty()) {
      return;
    }
    int priest = r.nextInt(m.w.priests.size());
    int s = r.nextInt(4);
    int days = 1 + r.nextInt(9);
    int bits = r.nextBoolean() ? 16 : 8;
    World one = r.nextBoolean() ? m.w.twin() : m.asKind(priest, r.nextInt(7));
    one.list[one.day % 6] = one.list[one.day % 6] / 100 * 100 + r.nextInt(41);
    both("sheet", s, bits, days);
    for (int i = 0; i < days; i++) {
      both("write", s, i, r.nextInt(3) == 0 ? -1 : one.priests.get(priest).stuffed);
      one.aDay();
    }
    both("fits", s, priest);
    both("words", s, priest);
    both("kinds", s, priest);
  }

  void knownSheet() {
    int s = r.nextInt(4);
    int n = Math.max(0, m.w.priests.size() + r.nextInt(3) - 1);
    both("sheet", s, 16, n);
    for (int i = 0; i < n; i++) {
      boolean so = i < m.w.priests.size() && r.nextInt(8) != 0;
      both("write", s, i, so ? bitsOf(m.w.priests.get(i).knows) : r.nextInt(256));
    }
    both("judge", s);
  }

  void beginFull() {
    int priests = 1 + r.nextInt(8);
    for (int p = 0; p < priests; p++) {
      both("priest", r.nextInt(7), r.nextBoolean() ? 255 : r.nextInt(256));
      both("change", p, 1, r.nextInt(60));
    }
    for (int i = 0; i < 6; i++) {
      both("list", i, 100 * r.nextInt(8) + r.nextInt(41));
    }
  }

  void lookAtAll() {
    for (int what = 0; what < 8; what++) {
      both("now", what);
      both("count", what);
    }
    for (int p = 0; p < m.w.priests.size(); p++) {
      for (int what = 0; what < 10; what++) {
        both("of", p, what);
      }
    }
    for (int i = 0; i < 6; i++) {
      both("listed", i);
    }
    for (int spot = 0; spot < 10; spot++) {
      both("as", spot, 0);
    }
    for (int which = -1; which < 7; which++) {
      both("status", which);
    }
  }

  void run() {
    List<String[]> urn = new ArrayList<>();
    for (String like : CALLS_LIKE) {
      String[] parts = like.split(" ");
      for (int i = 0; i < Integer.parseInt(parts[1]); i++) {
        urn.add(parts);
      }
    }
    if (r.nextInt(4) > 0) {
      beginFull();
    }
    while (calls.size() < CALLS - 160 && !failed) {
      String[] parts = urn.get(r.nextInt(urn.size()));
      switch (parts[0]) {
        case "feedText": feedText(); break;
        case "fullSheet": fullSheet(); break;
        case "knownSheet": knownSheet(); break;
        default: {
          int[] a = new int[parts.length - 2];
          for (int i = 0; i < a.length; i++) {
            a[i] = argument(parts[2 + i]);
          }
          both(parts[0], a);
        }
      }
    }
    lookAtAll();
  }

  public static void main(String[] args) {
    long runs = args.length > 0 ? Long.parseLong(args[0]) : RUNS;
    for (long seed = 1; seed <= runs && wrong < 10; seed++) {
      new RandomRuns(new Random(seed)).run();
    }
    System.out.println(wrong == 0 ? runs + " random runs are as due" : wrong + " random runs are not as due");
    if (wrong != 0) {
      System.exit(1);
    }
  }
}
