import java.util.ArrayDeque;
import java.util.ArrayList;
import java.util.Arrays;
import java.util.Deque;
import java.util.List;
import java.util.Random;

/**
 * Random runs of calls, each answer beside that of a plain model of the document, which draws each
 * line column by column and finds the best division by looking at all of them.
 */
public final class ModelTest {
  private static final int RUNS = 10_000;
  // An object is used for no more calls, those by which it is looked at among them.
  private static final int CALLS = 512;
  private static final int COUNTS = 12;
  private static final int[] ODD_NUMBERS = {
    Integer.MIN_VALUE, Integer.MIN_VALUE + 1, -1000, -2, -1, 0, 1, 2, 24, 25, 41, 127, 1000,
    Integer.MAX_VALUE - 1, Integer.MAX_VALUE
  };

  private static int wrong = 0;

  public static void main(String[] args) {
    int runs = args.length > 0 ? Integer.parseInt(args[0]) : RUNS;
    int firstSeed = args.length > 1 ? Integer.parseInt(args[1]) : 1;
    for (int seed = firstSeed; seed < firstSeed + runs && wrong < 20; seed++) {
      run(seed);
    }
    System.out.println(wrong == 0 ? "model: all answers are as due" : "model: " + wrong + " runs went wrong");
    if (wrong != 0) System.exit(1);
  }

  private static void run(int seed) {
    Random random = new Random(seed);
    Taste taste = new Taste(random);
    WhiteRivers x = new WhiteRivers();
    Model m = new Model();
    int calls = 0;
    while (calls < CALLS) {
      int[] c = taste.next(random, m);
      int got = ask(x, c);
      int want = m.answer(c);
      calls++;
      String difference = got != want ? "answered " + got + ", due is " + want : null;
      int looks = COUNTS + 2 * m.page.sizes.size();
      if (difference == null && calls + looks <= CALLS && random.nextInt(6) == 0) {
        difference = firstDifference(x, m);
        calls += looks;
      }
      if (difference != null) {
        wrong++;
        System.out.println("seed " + seed + ", call " + calls + ": " + Model.NAMES[c[0]]
            + Arrays.toString(Arrays.copyOfRange(c, 1, 1 + Model.ARGUMENTS[c[0]])) + " " + difference);
        return;
      }
    }
  }

  // What a call leaves behind is looked at now and then, so that few changes go unseen.
  private static String firstDifference(WhiteRivers x, Model m) {
    for (int what = 0; what < COUNTS; what++) {
      int got = x.count(what);
      int want = m.count(what);
      if (got != want) return "then count(" + what + ") answers " + got + ", due is " + want;
    }
    for (int line = 0; line < m.page.sizes.size(); line++) {
      int got = x.line(line, 1);
      int want = m.page.sizes.get(line);
      if (got != want) return "then line(" + line + ", 1) answers " + got + ", due is " + want;
      got = x.line(line, 5);
      want = m.page.frozen.get(line) ? 1 : 0;
      if (got != want) return "then line(" + line + ", 5) answers " + got + ", due is " + want;
    }
    return null;
  }

  private static int ask(WhiteRivers x, int[] c) {
    switch (Model.NAMES[c[0]]) {
      case "setWidth": return x.setWidth(c[1]);
      case "setSlack": return x.setSlack(c[1]);
      case "add": return x.add(c[1]);
      case "remove": return x.remove();
      case "pull": return x.pull(c[1]);
      case "push": return x.push(c[1]);
      case "freeze": return x.freeze(c[1], c[2]);
      case "reflow": return x.reflow();
      case "count": return x.count(c[1]);
      case "word": return x.word(c[1], c[2]);
      case "line": return x.line(c[1], c[2]);
      case "undo": return x.undo();
      case "gap": return x.gap(c[1], c[2], c[3]);
      case "river": return x.river(c[1], c[2]);
      case "at": return x.at(c[1], c[2]);
      case "plan": return x.plan(c[1], c[2]);
      case "planned": return x.planned(c[1], c[2]);
      case "dam": return x.dam(c[1]);
      case "leastRiver": return x.leastRiver();
      case "type": return x.type(c[1]);
      case "clearText": return x.clearText();
      case "fault": return x.fault();
      case "read": return x.read();
      default: throw new IllegalStateException();
    }
  }

  /** What a run likes: each seed asks other things more often, with shorter or longer words. */
  private static final class Taste {
    final int[] weights = new int[Model.NAMES.length];
    final int shortest;
    final int longest;
    final int odd;
    final boolean narrow;

    Taste(Random r) {
      for (int i = 0; i < weights.length; i++) weights[i] = 1 + r.nextInt(8);
      weights[Model.number("add")] += 4 + r.nextInt(40);
      weights[Model.number("type")] += r.nextInt(3) == 0 ? 60 : 0;
      weights[Model.number("remove")] = r.nextInt(3);
      weights[Model.number("read")] = r.nextInt(4);
      weights[Model.number("freeze")] = r.nextInt(8);
      weights[Model.number("clearText")] = r.nextInt(2);
      int a = 1 + r.nextInt(8);
      int b = 1 + r.nextInt(8);
      shortest = Math.min(a, b);
      longest = Math.max(a, b);
      odd = r.nextInt(4) == 0 ? 10 : 60;
      narrow = r.nextBoolean();
    }

    int[] next(Random r, Model m) {
      int sum = 0;
      for (int w : weights) sum += w;
      int at = r.nextInt(sum);
      int call = 0;
      while (at >= weights[call]) at -= weights[call++];
      int[] c = new int[4];
      c[0] = call;
      for (int i = 1; i <= Model.ARGUMENTS[call]; i++) {
        c[i] = r.nextInt(odd) == 0
            ? ODD_NUMBERS[r.nextInt(ODD_NUMBERS.length)] : argument(r, m, Model.NAMES[call], i);
      }
      return c;
    }

    private int argument(Random r, Model m, String name, int i) {
      int lines = m.page.sizes.size();
      int someLine = r.nextInt(lines + 1) - (r.nextInt(20) == 0 ? 1 : 0);
      switch (name) {
        case "setWidth": return narrow ? 15 + r.nextInt(6) : 15 + r.nextInt(27);
        case "setSlack": return r.nextInt(2) == 0 ? 8 : r.nextInt(10);
        case "add": return shortest + r.nextInt(longest - shortest + 1);
        case "freeze": return i == 1 ? someLine : r.nextInt(10) == 0 ? 2 : r.nextInt(2);
        case "count": return r.nextInt(13);
        case "word": return i == 1 ? r.nextInt(m.page.lengths.size() + 1) : r.nextInt(4);
        case "line": return i == 1 ? someLine : r.nextInt(8);
        case "gap": return i == 1 ? someLine : r.nextInt(6) - (r.nextInt(9) == 0 ? 1 : 0);
        case "river": return i == 1 ? r.nextInt(6) : r.nextInt(9) == 0 ? 2 : r.nextInt(2);
        case "at": return i == 1 ? someLine : r.nextInt(m.page.width + 1);
        case "plan": return i == 1 ? 1 + r.nextInt(6) : r.nextInt(5);
        case "planned": return i == 1 ? 1 + r.nextInt(6) : r.nextInt(6);
        case "dam": return 1 + r.nextInt(6);
        case "type": return r.nextInt(4) == 0 ? 32 : 31 + r.nextInt(97);
        default: return someLine;
      }
    }
  }

  /** The words of a column with their division into lines. */
  private static final class Page {
    int width = 24;
    int slack = 6;
    List<Integer> lengths = new ArrayList<>();
    List<Integer> sizes = new ArrayList<>();
    List<Boolean> frozen = new ArrayList<>();

    Page copy() {
      Page p = new Page();
      p.width = width;
      p.slack = slack;
      p.lengths.addAll(lengths);
      p.sizes.addAll(sizes);
      p.frozen.addAll(frozen);
      return p;
    }

    int first(int line) {
      int first = 0;
      for (int i = 0; i < line; i++) first += sizes.get(i);
      return first;
    }

    int extra(int first, int size) {
      int sum = size - 1;
      for (int i = first; i < first + size; i++) sum += lengths.get(i);
      return width - sum;
    }

    boolean anyFrozen() {
      return frozen.contains(true);
    }

    void greedy() {
      sizes.clear();
      frozen.clear();
      int first = 0;
      while (first < lengths.size()) {
        int size = 1;
        while (first + size < lengths.size() && extra(first, size + 1) >= 0) size++;
        sizes.add(size);
        frozen.add(false);
        first += size;
      }
    }
  }

  /** A page drawn: what each column of each line holds, and the reach of each gap. */
  private static final class Drawing {
    // A word is drawn by its number, the gap g by -2 - g, and what is behind the last word by -1.
    final List<int[]> rows = new ArrayList<>();
    final List<int[]> reaches = new ArrayList<>();

    Drawing(Page p, List<Integer> sizes) {
      int first = 0;
      for (int line = 0; line < sizes.size(); line++) {
        rows.add(row(p, first, sizes.get(line), line == sizes.size() - 1));
        first += sizes.get(line);
        int[] reach = new int[sizes.get(line) - 1];
        for (int g = 0; g < reach.length; g++) {
          reach[g] = 1;
          for (int up : meeting(line, g, line - 1)) reach[g] = Math.max(reach[g], 1 + reaches.get(line - 1)[up]);
        }
        reaches.add(reach);
      }
    }

    private static int[] row(Page p, int first, int size, boolean last) {
      int[] row = new int[p.width];
      Arrays.fill(row, -1);
      int extra = last ? 0 : p.extra(first, size);
      int column = 0;
      for (int i = 0; i < size; i++) {
        for (int k = 0; k < p.lengths.get(first + i); k++) row[column++] = first + i;
        if (i == size - 1) break;
        int width = 1 + extra / (size - 1) + (i < extra % (size - 1) ? 1 : 0);
        for (int k = 0; k < width; k++) row[column++] = -2 - i;
      }
      return row;
    }

    /** The gaps of another line that have a common column with a gap. */
    List<Integer> meeting(int line, int gap, int other) {
      List<Integer> found = new ArrayList<>();
      if (other < 0 || other >= rows.size()) return found;
      for (int column = 0; column < rows.get(line).length; column++) {
        int there = rows.get(other)[column];
        if (rows.get(line)[column] == -2 - gap && there <= -2 && !found.contains(-2 - there)) found.add(-2 - there);
      }
      return found;
    }

    int longest() {
      int longest = 0;
      for (int[] reach : reaches) for (int r : reach) longest = Math.max(longest, r);
      return longest;
    }
  }

  private static final class Division {
    List<Integer> sizes;
    int changed;
    int badness;
    int longest;

    boolean isBetterThan(Division other) {
      if (other == null) return true;
      if (changed != other.changed) return changed < other.changed;
      if (badness != other.badness) return badness < other.badness;
      for (int line = 0; line < sizes.size() && line < other.sizes.size(); line++) {
        int difference = sizes.get(line) - other.sizes.get(line);
        if (difference != 0) return difference > 0;
      }
      return false;
    }
  }

  private static final class Model {
    static final String[] NAMES = {
      "setWidth", "setSlack", "add", "remove", "pull", "push", "freeze", "reflow", "count", "word", "line", "undo",
      "gap", "river", "at", "plan", "planned", "dam", "leastRiver", "type", "clearText", "fault", "read"
    };
    static final int[] ARGUMENTS = {1, 1, 1, 0, 1, 1, 2, 0, 1, 2, 2, 0, 3, 2, 2, 2, 2, 1, 0, 1, 0, 0, 0};
    private static final int INVALID = -1;
    private static final int IMPOSSIBLE = -2;
    private static final int LIMIT = -3;
    private static final int MISSING = -4;

    Page page = new Page();
    final Deque<Page> history = new ArrayDeque<>();
    final StringBuilder text = new StringBuilder();
    private List<Division> divisions = null;

    static int number(String name) {
      return Arrays.asList(NAMES).indexOf(name);
    }

    int answer(int[] c) {
      switch (NAMES[c[0]]) {
        case "setWidth": return setWidth(c[1]);
        case "setSlack": return setSlack(c[1]);
        case "add": return add(c[1]);
        case "remove": return remove();
        case "pull": return pull(c[1]);
        case "push": return push(c[1]);
        case "freeze": return freeze(c[1], c[2]);
        case "reflow": return reflow();
        case "count": return count(c[1]);
        case "word": return word(c[1], c[2]);
        case "line": return line(c[1], c[2]);
        case "undo": return undo();
        case "gap": return gap(c[1], c[2], c[3]);
        case "river": return river(c[1], c[2]);
        case "at": return at(c[1], c[2]);
        case "plan": return plan(c[1], c[2]);
        case "planned": return planned(c[1], c[2]);
        case "dam": return dam(c[1]);
        case "leastRiver": return leastRiver();
        case "type": return type(c[1]);
        case "clearText": return clearText();
        case "fault": return fault();
        default: return read();
      }
    }

    private void record() {
      history.addLast(page.copy());
      if (history.size() > 5) history.removeFirst();
      divisions = null;
    }

    private boolean noLine(int line) {
      return line < 0 || line >= page.sizes.size();
    }

    int setWidth(int width) {
      if (width < 16 || width > 40) return INVALID;
      if (page.anyFrozen()) return IMPOSSIBLE;
      record();
      page.width = width;
      page.greedy();
      return page.sizes.size();
    }

    int setSlack(int slack) {
      if (slack < 0 || slack > 8) return INVALID;
      record();
      int before = page.slack;
      page.slack = slack;
      return before;
    }

    int add(int length) {
      if (length < 1 || length > 8) return INVALID;
      if (page.lengths.size() == 24) return LIMIT;
      record();
      page.lengths.add(length);
      int last = page.sizes.size() - 1;
      if (last >= 0 && !page.frozen.get(last) && page.extra(page.first(last), page.sizes.get(last) + 1) >= 0) {
        page.sizes.set(last, page.sizes.get(last) + 1);
      } else {
        page.sizes.add(1);
        page.frozen.add(false);
      }
      return page.lengths.size() - 1;
    }

    int remove() {
      int last = page.sizes.size() - 1;
      if (last < 0 || page.frozen.get(last)) return IMPOSSIBLE;
      record();
      page.lengths.remove(page.lengths.size() - 1);
      shrink(last);
      return page.lengths.size();
    }

    private void shrink(int line) {
      if (page.sizes.get(line) == 1) {
        page.sizes.remove(line);
        page.frozen.remove(line);
      } else {
        page.sizes.set(line, page.sizes.get(line) - 1);
      }
    }

    int pull(int line) {
      if (noLine(line)) return INVALID;
      if (line + 1 >= page.sizes.size() || page.frozen.get(line) || page.frozen.get(line + 1)) return IMPOSSIBLE;
      if (page.extra(page.first(line), page.sizes.get(line) + 1) < 0) return IMPOSSIBLE;
      record();
      page.sizes.set(line, page.sizes.get(line) + 1);
      shrink(line + 1);
      return page.sizes.size();
    }

    int push(int line) {
      if (noLine(line)) return INVALID;
      boolean last = line == page.sizes.size() - 1;
      if (page.sizes.get(line) == 1 || page.frozen.get(line) || (!last && page.frozen.get(line + 1))) return IMPOSSIBLE;
      if (!last && page.extra(page.first(line + 1) - 1, page.sizes.get(line + 1) + 1) < 0) return IMPOSSIBLE;
      record();
      page.sizes.set(line, page.sizes.get(line) - 1);
      if (last) {
        page.sizes.add(1);
        page.frozen.add(false);
      } else {
        page.sizes.set(line + 1, page.sizes.get(line + 1) + 1);
      }
      return page.sizes.size();
    }

    int freeze(int line, int frozen) {
      if (noLine(line) || frozen < 0 || frozen > 1) return INVALID;
      record();
      return page.frozen.set(line, frozen == 1) ? 1 : 0;
    }

    int reflow() {
      if (page.anyFrozen()) return IMPOSSIBLE;
      record();
      page.greedy();
      return page.sizes.size();
    }

    int badness(int line) {
      int extra = page.extra(page.first(line), page.sizes.get(line));
      return line == page.sizes.size() - 1 ? 0 : extra * extra;
    }

    int count(int what) {
      Drawing d = new Drawing(page, page.sizes);
      int n = 0;
      switch (what) {
        case 0: return page.lengths.size();
        case 1: return page.sizes.size();
        case 2: return page.width;
        case 3: return page.slack;
        case 4:
          for (int line = 0; line < page.sizes.size(); line++) n += badness(line);
          return n;
        case 5: return d.longest();
        case 6:
          for (int size : page.sizes) n += size - 1;
          return n;
        case 7:
          for (int line = 0; line < page.sizes.size(); line++) {
            for (int g = 0; g < page.sizes.get(line) - 1; g++) n += d.meeting(line, g, line - 1).size() >= 2 ? 1 : 0;
          }
          return n;
        case 8:
          for (boolean frozen : page.frozen) n += frozen ? 1 : 0;
          return n;
        case 9: return history.size();
        case 10: return text.length();
        case 11:
          for (int[] reach : d.reaches) for (int r : reach) n += r == d.longest() ? 1 : 0;
          return n;
        default: return INVALID;
      }
    }

    int word(int word, int what) {
      if (word < 0 || word >= page.lengths.size() || what < 0 || what > 2) return INVALID;
      if (what == 0) return page.lengths.get(word);
      int line = 0;
      while (page.first(line + 1) <= word) line++;
      if (what == 1) return line;
      int[] row = new Drawing(page, page.sizes).rows.get(line);
      int column = 0;
      while (row[column] != word) column++;
      return column;
    }

    int line(int line, int what) {
      if (noLine(line) || what < 0 || what > 6) return INVALID;
      switch (what) {
        case 0: return page.first(line);
        case 1: return page.sizes.get(line);
        case 2: return page.extra(page.first(line), page.sizes.get(line));
        case 3: return badness(line);
        case 4: return page.sizes.get(line) - 1;
        case 5: return page.frozen.get(line) ? 1 : 0;
        default: return Arrays.stream(new Drawing(page, page.sizes).reaches.get(line)).max().orElse(0);
      }
    }

    int undo() {
      if (history.isEmpty()) return IMPOSSIBLE;
      page = history.removeLast();
      divisions = null;
      return history.size();
    }

    int gap(int line, int gap, int what) {
      if (noLine(line) || gap < 0 || gap >= page.sizes.get(line) - 1 || what < 0 || what > 4) return INVALID;
      Drawing d = new Drawing(page, page.sizes);
      int width = 0;
      int start = -1;
      for (int column = 0; column < page.width; column++) {
        if (d.rows.get(line)[column] != -2 - gap) continue;
        if (start < 0) start = column;
        width++;
      }
      switch (what) {
        case 0: return start;
        case 1: return width;
        case 2: return d.reaches.get(line)[gap];
        case 3: return d.meeting(line, gap, line - 1).size();
        default: return d.meeting(line, gap, line + 1).size();
      }
    }

    int river(int index, int what) {
      if (index < 0 || what < 0 || what > 1) return INVALID;
      Drawing d = new Drawing(page, page.sizes);
      int reach = d.longest();
      if (index >= reach) return MISSING;
      int line = 0;
      int gap = -1;
      for (; gap < 0; line++) gap = firstGap(d, line, reach, null);
      line--;
      for (int i = 0; i < index; i++) {
        gap = firstGap(d, line - 1, --reach, d.meeting(line, gap, line - 1));
        line--;
      }
      return what == 0 ? line : gap;
    }

    private static int firstGap(Drawing d, int line, int reach, List<Integer> among) {
      int[] reaches = d.reaches.get(line);
      for (int g = 0; g < reaches.length; g++) {
        if (reaches[g] == reach && (among == null || among.contains(g))) return g;
      }
      return -1;
    }

    int at(int line, int column) {
      if (noLine(line) || column < 0 || column >= page.width) return INVALID;
      int there = new Drawing(page, page.sizes).rows.get(line)[column];
      return there >= 0 ? there : MISSING;
    }

    private void divide(int first, List<Integer> sizes) {
      if (first == page.lengths.size()) {
        divisions.add(measured(new ArrayList<>(sizes)));
        return;
      }
      for (int size = 1; first + size <= page.lengths.size() && page.extra(first, size) >= 0; size++) {
        boolean last = first + size == page.lengths.size();
        int like = likeNow(first, size);
        boolean isFrozen = like >= 0 && page.frozen.get(like);
        if (!isFrozen && (touchesFrozen(first, size) || (!last && page.extra(first, size) > page.slack))) continue;
        sizes.add(size);
        divide(first + size, sizes);
        sizes.remove(sizes.size() - 1);
      }
    }

    /** The line that has these words now, or -1. */
    private int likeNow(int first, int size) {
      for (int line = 0; line < page.sizes.size(); line++) {
        if (page.first(line) == first && page.sizes.get(line) == size) return line;
      }
      return -1;
    }

    private boolean touchesFrozen(int first, int size) {
      for (int line = 0; line < page.sizes.size(); line++) {
        if (page.frozen.get(line) && page.first(line) < first + size && first < page.first(line + 1)) return true;
      }
      return false;
    }

    private Division measured(List<Integer> sizes) {
      Division d = new Division();
      d.sizes = sizes;
      d.longest = new Drawing(page, sizes).longest();
      int first = 0;
      for (int size : sizes) {
        int extra = page.extra(first, size);
        d.badness += first + size == page.lengths.size() ? 0 : extra * extra;
        d.changed += likeNow(first, size) < 0 ? 1 : 0;
        first += size;
      }
      return d;
    }

    private Division best(int length) {
      if (divisions == null) {
        divisions = new ArrayList<>();
        divide(0, new ArrayList<>());
      }
      Division best = null;
      for (Division d : divisions) {
        if (d.longest <= length && d.isBetterThan(best)) best = d;
      }
      return best;
    }

    int plan(int length, int what) {
      if (length < 1 || length > 24 || what < 0 || what > 3) return INVALID;
      Division d = best(length);
      if (d == null) return MISSING;
      return what == 0 ? d.changed : what == 1 ? d.sizes.size() : what == 2 ? d.badness : d.longest;
    }

    int planned(int length, int line) {
      if (length < 1 || length > 24 || line < 0) return INVALID;
      Division d = best(length);
      return d == null || line >= d.sizes.size() ? MISSING : d.sizes.get(line);
    }

    int dam(int length) {
      if (length < 1 || length > 24) return INVALID;
      Division d = best(length);
      if (d == null) return IMPOSSIBLE;
      record();
      List<Boolean> frozen = new ArrayList<>();
      int first = 0;
      for (int size : d.sizes) {
        int like = likeNow(first, size);
        frozen.add(like >= 0 && page.frozen.get(like));
        first += size;
      }
      page.sizes = d.sizes;
      page.frozen = frozen;
      return d.changed;
    }

    int leastRiver() {
      for (int length = 1; length <= 24; length++) {
        if (best(length) != null) return length;
      }
      return MISSING;
    }

    int type(int character) {
      if (character < 32 || character > 126) return INVALID;
      if (text.length() == 100) return LIMIT;
      text.append((char) character);
      return text.length();
    }

    int clearText() {
      int length = text.length();
      text.setLength(0);
      return length;
    }

    int fault() {
      for (int i = 0; i < text.length(); i++) {
        String start = text.substring(0, i + 1);
        boolean blank = text.charAt(i) == ' ';
        if (blank && (i == 0 || text.charAt(i - 1) == ' ' || i == text.length() - 1)) return i;
        String[] words = start.split(" ");
        if (!blank && (words[words.length - 1].length() > 8 || words.length > 24)) return i;
      }
      return MISSING;
    }

    int read() {
      if (fault() != MISSING) return IMPOSSIBLE;
      record();
      page.lengths.clear();
      if (text.length() > 0) for (String word : text.toString().split(" ")) page.lengths.add(word.length());
      page.greedy();
      return page.lengths.size();
    }
  }
}
