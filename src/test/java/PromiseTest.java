import java.util.function.IntSupplier;

/** Each promise of the document at work: ordinary calls in a row, some edges, and wrong inputs. */
public final class PromiseTest extends Cases {
  public static void main(String[] args) {
    runAll(PromiseTest.class);
  }

  /** An error is due, and that the object stays as it is. */
  private static void refused(String call, WhiteRivers x, IntSupplier asked, int want) {
    String before = brief(x);
    due(call, asked.getAsInt(), want);
    dueText("what there is after " + call, brief(x), before);
  }

  private static String brief(WhiteRivers x) {
    return division(x) + " " + x.count(0) + " " + x.count(2) + " " + x.count(3) + " " + x.count(9) + " " + x.count(10);
  }

  /** What the history keeps of an object. */
  private static String kept(WhiteRivers x) {
    return words(x) + division(x) + " " + x.count(2) + " " + x.count(3);
  }

  private static WhiteRivers column(int width, int... lengths) {
    WhiteRivers x = new WhiteRivers();
    x.setWidth(width);
    for (int length : lengths) x.add(length);
    return x;
  }

  private static WhiteRivers push(WhiteRivers x, int... lines) {
    for (int line : lines) due("push(" + line + ")", x.push(line) > 0 ? 1 : 0, 1);
    return x;
  }

  /** Lines of 3, 2 and 2 words: gaps at 3..6 and 10..12, at 1..14, and at 5. */
  private static WhiteRivers joined() {
    return push(column(16, 3, 3, 3, 1, 1, 5, 5), 0, 0, 1, 1);
  }

  /** Gaps at 8..14, at 3..6 and 10..12, at 1..14, and at 5: the river is not that of the first gap. */
  private static WhiteRivers crooked() {
    return push(column(16, 8, 1, 3, 3, 3, 1, 1, 5, 5), 0, 1, 1, 2, 2);
  }

  /** Lines of one word each, which can only stay so in the last two of them. */
  private static WhiteRivers single() {
    WhiteRivers x = push(column(16, 8, 5, 8, 5), 1, 0, 1, 2);
    x.setSlack(8);
    return x;
  }

  static void promise1NewObject() {
    WhiteRivers x = new WhiteRivers();
    dueText("the state", state(x), "0 0 24 6 0 0 0 0 0 0 0 0  -4");
    due("word(0, 0)", x.word(0, 0), -1);
    due("line(0, 0)", x.line(0, 0), -1);
    x.add(1);
    due("count(0) of another one", new WhiteRivers().count(0), 0);
    due("INVALID_ARGUMENT", WhiteRivers.INVALID_ARGUMENT, -1);
    due("NOT_POSSIBLE", WhiteRivers.NOT_POSSIBLE, -2);
    due("LIMIT_REACHED", WhiteRivers.LIMIT_REACHED, -3);
    due("NOT_FOUND", WhiteRivers.NOT_FOUND, -4);
  }

  static void promise2SetWidth() {
    WhiteRivers x = column(24, 8, 8, 8, 8);
    due("count(1)", x.count(1), 2);
    due("setWidth(26)", x.setWidth(26), 2);
    dueDivision(x, "|3|1");
    due("setWidth(25)", x.setWidth(25), 2);
    dueDivision(x, "|2|2");
    due("setWidth(35)", x.setWidth(35), 1);
    due("setWidth(34)", x.setWidth(34), 2);
    due("setWidth(16)", x.setWidth(16), 4);
    due("setWidth(40)", x.setWidth(40), 1);
    due("count(2)", x.count(2), 40);
    push(x, 0);
    due("setWidth(40) again", x.setWidth(40), 1);
    due("count(9)", x.count(9), 5);
    due("setWidth(16) without words", new WhiteRivers().setWidth(16), 0);
    refused("setWidth(15)", x, () -> x.setWidth(15), -1);
    refused("setWidth(41)", x, () -> x.setWidth(41), -1);
    x.freeze(0, 1);
    refused("setWidth(30) with a frozen line", x, () -> x.setWidth(30), -2);
    refused("setWidth(15) with a frozen line", x, () -> x.setWidth(15), -1);
    x.freeze(0, 0);
    due("setWidth(30) with a thawed line", x.setWidth(30), 2);
  }

  static void promise3SetSlack() {
    WhiteRivers x = new WhiteRivers();
    due("setSlack(0)", x.setSlack(0), 6);
    due("setSlack(8)", x.setSlack(8), 0);
    due("setSlack(8) again", x.setSlack(8), 8);
    due("count(3)", x.count(3), 8);
    due("count(9)", x.count(9), 3);
    refused("setSlack(9)", x, () -> x.setSlack(9), -1);
    WhiteRivers y = single();
    y.freeze(0, 1);
    due("setSlack(3) with a frozen line", y.setSlack(3), 8);
    dueDivision(y, "|1*|1|1|1");
  }

  static void promise4Add() {
    WhiteRivers x = column(16);
    due("add(8)", x.add(8), 0);
    due("add(7)", x.add(7), 1);
    dueText("a line that is just full", division(x), "|2");
    due("add(1)", x.add(1), 2);
    dueDivision(x, "|2|1");
    x.freeze(1, 1);
    due("add(1) behind a frozen line", x.add(1), 3);
    dueDivision(x, "|2|1*|1");
    due("add(1) behind a line behind a frozen one", x.add(1), 4);
    dueDivision(x, "|2|1*|2");
    refused("add(0)", x, () -> x.add(0), -1);
    refused("add(9)", x, () -> x.add(9), -1);
    for (int word = 5; word < 24; word++) due("add(2)", x.add(2), word);
    refused("add(1) to 24 words", x, () -> x.add(1), -3);
    refused("add(9) to 24 words", x, () -> x.add(9), -1);
    dueText("the words", words(x), "871112222222222222222222");
    WhiteRivers y = push(column(24, 3, 3, 3), 0);
    due("add(3) to a pushed line", y.add(3), 3);
    dueText("lines before the last one stay", division(y), "|2|2");
  }

  static void promise5Remove() {
    WhiteRivers x = column(16, 8, 7, 3);
    due("remove()", x.remove(), 2);
    dueDivision(x, "|2");
    due("remove()", x.remove(), 1);
    dueDivision(x, "|1");
    x.freeze(0, 1);
    refused("remove() of a frozen line", x, x::remove, -2);
    x.add(2);
    due("remove() behind a frozen line", x.remove(), 1);
    dueDivision(x, "|1*");
    x.freeze(0, 0);
    due("remove() of the only word", x.remove(), 0);
    due("count(1)", x.count(1), 0);
    refused("remove() without words", x, x::remove, -2);
    due("add(5)", x.add(5), 0);
    dueText("a word added then", division(x), "|1");
    WhiteRivers y = column(16, 8, 8);
    y.remove();
    y.add(2);
    dueText("a word added where a line was removed", division(y), "|2");
  }

  static void promise6Pull() {
    WhiteRivers x = push(column(16, 4, 4, 4, 4, 4), 0, 1, 1);
    dueDivision(x, "|2|1|2");
    due("pull(0)", x.pull(0), 2);
    dueText("a line without words is none", division(x), "|3|2");
    refused("pull(0), which would not fit", x, () -> x.pull(0), -2);
    refused("pull(1) of the last line", x, () -> x.pull(1), -2);
    refused("pull(2)", x, () -> x.pull(2), -1);
    WhiteRivers y = push(column(16, 2, 2, 2, 2, 2), 0, 0, 0, 1);
    dueDivision(y, "|2|2|1");
    y.freeze(2, 1);
    refused("pull(1) from a frozen line", y, () -> y.pull(1), -2);
    due("pull(0)", y.pull(0), 3);
    due("pull(0) again", y.pull(0), 2);
    dueText("a frozen line moves up", division(y), "|4|1*");
    y.freeze(1, 0);
    y.freeze(0, 1);
    refused("pull(0) to a frozen line", y, () -> y.pull(0), -2);
    y.freeze(0, 0);
    due("pull(0) to a thawed line", y.pull(0), 1);
    WhiteRivers z = push(column(16, 8, 7), 0);
    due("pull(0) to the width", z.pull(0), 1);
    due("count(9)", z.count(9), 5);
    due("pull(0) without words", new WhiteRivers().pull(0), -1);
  }

  static void promise7Push() {
    WhiteRivers x = column(16, 4, 4, 4, 4, 4);
    dueDivision(x, "|3|2");
    due("push(0)", x.push(0), 2);
    dueDivision(x, "|2|3");
    refused("push(0), after which the next line would not fit", x, () -> x.push(0), -2);
    due("push(1) of the last line", x.push(1), 3);
    dueDivision(x, "|2|2|1");
    refused("push(2) of a line with one word", x, () -> x.push(2), -2);
    refused("push(3)", x, () -> x.push(3), -1);
    x.freeze(1, 1);
    refused("push(0) to a frozen line", x, () -> x.push(0), -2);
    refused("push(1) of a frozen line", x, () -> x.push(1), -2);
    x.freeze(1, 0);
    x.freeze(2, 1);
    refused("push(1) to a frozen last line", x, () -> x.push(1), -2);
    due("push(0)", x.push(0), 3);
    dueDivision(x, "|1|3|1*");
    WhiteRivers y = push(column(16, 8, 7), 0);
    y.undo();
    y.freeze(0, 1);
    refused("push(0) of a frozen last line", y, () -> y.push(0), -2);
    WhiteRivers z = column(16, 8, 1, 8, 5);
    due("push(0) to the width", z.push(0), 2);
    dueDivision(z, "|1|3");
    due("line(1, 2)", z.line(1, 2), 0);
  }

  static void promise8Freeze() {
    WhiteRivers x = single();
    due("freeze(1, 1)", x.freeze(1, 1), 0);
    due("freeze(1, 1) again", x.freeze(1, 1), 1);
    due("count(8)", x.count(8), 1);
    dueDivision(x, "|1|1*|1|1");
    due("freeze(3, 0) of a line not frozen", x.freeze(3, 0), 0);
    due("freeze(1, 0)", x.freeze(1, 0), 1);
    due("freeze(1, 0) again", x.freeze(1, 0), 0);
    due("count(8)", x.count(8), 0);
    due("count(9)", x.count(9), 5);
    refused("freeze(4, 1)", x, () -> x.freeze(4, 1), -1);
    refused("freeze(0, 2)", x, () -> x.freeze(0, 2), -1);
    due("freeze(0, 1) without words", new WhiteRivers().freeze(0, 1), -1);
  }

  static void promise9Reflow() {
    WhiteRivers x = joined();
    due("reflow()", x.reflow(), 2);
    dueDivision(x, "|5|2");
    due("reflow() again", x.reflow(), 2);
    due("count(9)", x.count(9), 5);
    x.freeze(1, 1);
    refused("reflow() with a frozen line", x, x::reflow, -2);
    WhiteRivers y = new WhiteRivers();
    due("reflow() without words", y.reflow(), 0);
    due("count(9)", y.count(9), 1);
  }

  static void promise10Count() {
    WhiteRivers x = joined();
    typed(x, "ab c");
    x.freeze(1, 1);
    int[] want = {7, 3, 16, 6, 25 + 169, 3, 4, 1, 1, 5, 4, 1};
    for (int what = 0; what < want.length; what++) due("count(" + what + ")", x.count(what), want[what]);
    due("count(12)", x.count(12), -1);
    WhiteRivers y = column(16, 1, 1, 1);
    due("count(5) of one line", y.count(5), 1);
    due("count(11) of one line", y.count(11), 2);
    WhiteRivers z = column(16, 8, 8, 8);
    due("count(5) without gaps", z.count(5), 0);
    due("count(11) without gaps", z.count(11), 0);
    due("count(4) without gaps", z.count(4), 128);
    due("count(7) without gaps", z.count(7), 0);
  }

  static void promise11Word() {
    WhiteRivers x = joined();
    int[] lengths = {3, 3, 3, 1, 1, 5, 5};
    int[] lines = {0, 0, 0, 1, 1, 2, 2};
    int[] columns = {0, 7, 13, 0, 15, 0, 6};
    for (int word = 0; word < 7; word++) {
      due("word(" + word + ", 0)", x.word(word, 0), lengths[word]);
      due("word(" + word + ", 1)", x.word(word, 1), lines[word]);
      due("word(" + word + ", 2)", x.word(word, 2), columns[word]);
    }
    due("word(7, 0)", x.word(7, 0), -1);
    due("word(0, 3)", x.word(0, 3), -1);
  }

  static void promise12Line() {
    WhiteRivers x = joined();
    x.freeze(2, 1);
    int[][] want = {{0, 3, 5, 25, 2, 0, 1}, {3, 2, 13, 169, 1, 0, 2}, {5, 2, 5, 0, 1, 1, 3}};
    for (int line = 0; line < 3; line++) {
      for (int what = 0; what <= 6; what++) due("line(" + line + ", " + what + ")", x.line(line, what), want[line][what]);
    }
    due("line(3, 0)", x.line(3, 0), -1);
    due("line(0, 7)", x.line(0, 7), -1);
    WhiteRivers y = column(16, 8, 8);
    due("line(0, 2) of one word", y.line(0, 2), 8);
    due("line(0, 4) of one word", y.line(0, 4), 0);
    due("line(0, 6) of one word", y.line(0, 6), 0);
  }

  static void promise13Undo() {
    WhiteRivers x = new WhiteRivers();
    refused("undo() without history", x, x::undo, -2);
    for (int length = 1; length <= 6; length++) x.add(length);
    due("count(9)", x.count(9), 5);
    for (int left = 4; left >= 0; left--) due("undo()", x.undo(), left);
    dueText("the words", words(x), "1");
    refused("undo() of the dropped state", x, x::undo, -2);
    WhiteRivers y = joined();
    y.freeze(0, 1);
    String before = kept(y);
    y.setSlack(2);
    y.freeze(0, 0);
    y.setWidth(40);
    y.remove();
    typed(y, "a");
    y.read();
    due("plan(1, 1) of one word", y.plan(1, 1), 1);
    for (int left = 4; left >= 0; left--) due("undo()", y.undo(), left);
    due("the text stays", y.clearText(), 1);
    dueText("what a state keeps", kept(y), before);
    due("plan(2, 0) is that of the restored lines", y.plan(2, 0), 1);
    due("plan(2, 2)", y.plan(2, 2), 25);
  }

  static void promise14Gap() {
    WhiteRivers x = joined();
    int[][] want = {{3, 4, 1, 0, 1}, {10, 3, 1, 0, 1}, {1, 14, 2, 2, 1}, {5, 1, 3, 1, 0}};
    for (int what = 0; what <= 4; what++) {
      due("gap(0, 0, " + what + ")", x.gap(0, 0, what), want[0][what]);
      due("gap(0, 1, " + what + ")", x.gap(0, 1, what), want[1][what]);
      due("gap(1, 0, " + what + ")", x.gap(1, 0, what), want[2][what]);
      due("gap(2, 0, " + what + ")", x.gap(2, 0, what), want[3][what]);
    }
    due("gap(0, 2, 0)", x.gap(0, 2, 0), -1);
    due("gap(1, 1, 0)", x.gap(1, 1, 0), -1);
    due("gap(3, 0, 0)", x.gap(3, 0, 0), -1);
    due("gap(0, 0, 5)", x.gap(0, 0, 5), -1);
    // A gap at 5..7, and gaps at 4 and 7: those at 4 and 5 lie side by side, but have no common column.
    WhiteRivers y = column(16, 5, 8, 4, 2, 8);
    due("gap(0, 0, 1)", y.gap(0, 0, 1), 3);
    due("gap(0, 0, 4)", y.gap(0, 0, 4), 1);
    due("gap(1, 0, 0)", y.gap(1, 0, 0), 4);
    due("gap(1, 0, 3)", y.gap(1, 0, 3), 0);
    due("gap(1, 0, 2)", y.gap(1, 0, 2), 1);
    due("gap(1, 1, 3)", y.gap(1, 1, 3), 1);
    due("gap(1, 1, 2)", y.gap(1, 1, 2), 2);
    due("gap(1, 0, 3) of a gap at 8", column(16, 5, 8, 8, 3).gap(1, 0, 3), 0);
    due("the wider gap of a later line, gap(1, 0, 1)", crooked().gap(1, 0, 1), 4);
    due("the other gap of a later line, gap(1, 1, 1)", crooked().gap(1, 1, 1), 3);
    due("gap(0, 0, 0) of a line with one word", column(16, 8, 8).gap(0, 0, 0), -1);
  }

  static void promise15River() {
    WhiteRivers x = joined();
    int[][] want = {{2, 0}, {1, 0}, {0, 0}};
    for (int index = 0; index < 3; index++) {
      due("river(" + index + ", 0)", x.river(index, 0), want[index][0]);
      due("river(" + index + ", 1)", x.river(index, 1), want[index][1]);
    }
    due("river(3, 0)", x.river(3, 0), -4);
    due("river(MAX, 1)", x.river(Integer.MAX_VALUE, 1), -4);
    due("river(-1, 0)", x.river(-1, 0), -1);
    due("river(MIN, 0)", x.river(Integer.MIN_VALUE, 0), -1);
    due("river(0, 2)", x.river(0, 2), -1);
    due("river(3, 2)", x.river(3, 2), -1);
    WhiteRivers y = crooked();
    int[][] bent = {{3, 0}, {2, 0}, {1, 1}, {0, 0}};
    for (int index = 0; index < 4; index++) {
      due("crooked river(" + index + ", 0)", y.river(index, 0), bent[index][0]);
      due("crooked river(" + index + ", 1)", y.river(index, 1), bent[index][1]);
    }
    due("crooked river(4, 0)", y.river(4, 0), -4);
    WhiteRivers z = column(16, 5, 5, 8, 8, 5, 5);
    due("of two rivers the upper one, river(0, 0)", z.river(0, 0), 0);
    due("of two gaps the first one, river(0, 1)", column(16, 1, 1, 1).river(0, 1), 0);
    due("river(0, 0) without gaps", column(16, 8).river(0, 0), -4);
  }

  static void promise16At() {
    WhiteRivers x = joined();
    int[][] rows = {
      {0, 0, 0, -4, -4, -4, -4, 1, 1, 1, -4, -4, -4, 2, 2, 2},
      {3, -4, -4, -4, -4, -4, -4, -4, -4, -4, -4, -4, -4, -4, -4, 4},
      {5, 5, 5, 5, 5, -4, 6, 6, 6, 6, 6, -4, -4, -4, -4, -4},
    };
    for (int line = 0; line < 3; line++) {
      for (int column = 0; column < 16; column++) {
        due("at(" + line + ", " + column + ")", x.at(line, column), rows[line][column]);
      }
    }
    due("at(0, 16)", x.at(0, 16), -1);
    due("at(3, 0)", x.at(3, 0), -1);
    due("at(0, 39) of a wide column", column(40, 1).at(0, 39), -4);
  }

  static void promise17Plan() {
    for (int what = 0; what <= 3; what++) due("plan(24, " + what + ") without words", new WhiteRivers().plan(24, what), 0);
    duePlan("lines that can't be others", column(16, 5, 5, 5, 5, 5, 5), 3, 0, 3, 50, 3);
    due("plan(2, 0), where the river is longer", column(16, 5, 5, 5, 5, 5, 5).plan(2, 0), -4);
    WhiteRivers x = joined();
    x.setSlack(8);
    duePlan("of one changed line the least badness", x, 24, 1, 2, 1, 1);
    x.freeze(0, 1);
    duePlan("beside a frozen line", x, 2, 1, 2, 25, 2);
    due("plan(1, 0), which a frozen line hinders", x.plan(1, 0), -4);
    due("count(9)", x.count(9), 5);
    WhiteRivers y = push(column(16, 4, 4, 4, 4, 4), 0);
    y.setSlack(7);
    duePlan("rather more badness than a changed line", y, 2, 0, 2, 49, 2);
    y.setSlack(6);
    duePlan("the extra beyond the slack", y, 2, 2, 2, 4, 2);
    y.freeze(0, 1);
    duePlan("the extra of a frozen line", y, 2, 0, 2, 49, 2);
    duePlan("of equal ones more words first", single(), 1, 1, 3, 68, 1);
    WhiteRivers z = column(16, 5, 5, 5);
    due("plan(0, 0)", z.plan(0, 0), -1);
    due("plan(25, 0)", z.plan(25, 0), -1);
    due("plan(1, 4)", z.plan(1, 4), -1);
    z.setSlack(0);
    due("plan(1, 0), where the slack hinders", z.plan(1, 0), -4);
    due("plan(1, 4), where the slack hinders", z.plan(1, 4), -1);
    z.undo();
    due("plan(1, 0) with the slack of before", z.plan(1, 0), 0);
    WhiteRivers w = push(column(16, 4, 4, 4), 0);
    due("plan(24, 0) of lines that are joined", w.plan(24, 0), 1);
    w.freeze(1, 1);
    due("plan(24, 0), where a frozen line can't be joined", w.plan(24, 0), -4);
  }

  private static void duePlan(String name, WhiteRivers x, int length, int... want) {
    String before = state(x);
    for (int what = 0; what <= 3; what++) due(name + ": plan(" + length + ", " + what + ")", x.plan(length, what), want[what]);
    dueText(name + ": the state", state(x), before);
  }

  static void promise18Planned() {
    WhiteRivers x = single();
    due("planned(1, 0)", x.planned(1, 0), 2);
    due("planned(1, 1)", x.planned(1, 1), 1);
    due("planned(1, 2)", x.planned(1, 2), 1);
    due("planned(1, 3)", x.planned(1, 3), -4);
    due("planned(1, MAX)", x.planned(1, Integer.MAX_VALUE), -4);
    due("planned(1, -1)", x.planned(1, -1), -1);
    due("planned(1, MIN)", x.planned(1, Integer.MIN_VALUE), -1);
    due("planned(0, 0)", x.planned(0, 0), -1);
    due("planned(25, 0)", x.planned(25, 0), -1);
    dueDivision(x, "|1|1|1|1");
    WhiteRivers y = joined();
    y.setSlack(8);
    dueText("the best division", planned(y, 24), "|5|2");
    y.freeze(0, 1);
    dueText("the best division beside a frozen line", planned(y, 24), "|3|4");
    due("planned(1, 0) without a division", y.planned(1, 0), -4);
    due("planned(1, -1) without a division", y.planned(1, -1), -1);
    due("planned(1, 0) without words", new WhiteRivers().planned(1, 0), -4);
  }

  static void promise19Dam() {
    WhiteRivers x = joined();
    x.setSlack(8);
    x.freeze(0, 1);
    refused("dam(1) without a division", x, () -> x.dam(1), -2);
    due("dam(2)", x.dam(2), 1);
    dueDivision(x, "|3*|4");
    due("count(5)", x.count(5), 2);
    due("dam(2) again", x.dam(2), 0);
    due("undo()", x.undo(), 4);
    due("undo()", x.undo(), 3);
    dueText("the division of before", division(x), "|3*|2|2");
    refused("dam(0)", x, () -> x.dam(0), -1);
    refused("dam(25)", x, () -> x.dam(25), -1);
    x.freeze(0, 0);
    due("dam(24)", x.dam(24), 1);
    dueDivision(x, "|5|2");
    WhiteRivers y = single();
    y.freeze(3, 1);
    due("dam(1) above a frozen line", y.dam(1), 1);
    dueDivision(y, "|2|1|1*");
    due("plan(1, 0) is that of the new lines", y.plan(1, 0), 0);
    WhiteRivers z = new WhiteRivers();
    due("dam(1) without words", z.dam(1), 0);
    due("count(9)", z.count(9), 1);
  }

  static void promise20LeastRiver() {
    due("leastRiver() without words", new WhiteRivers().leastRiver(), 1);
    due("leastRiver() without gaps", column(16, 8).leastRiver(), 1);
    WhiteRivers x = column(16, 5, 5, 5, 5, 5, 5);
    due("leastRiver()", x.leastRiver(), 3);
    x.setSlack(4);
    refused("leastRiver() where the slack hinders", x, x::leastRiver, -4);
    x.freeze(0, 1);
    x.freeze(1, 1);
    due("leastRiver() of frozen lines", x.leastRiver(), 3);
    WhiteRivers y = joined();
    y.setSlack(8);
    due("leastRiver() of other lines", y.leastRiver(), 1);
    y.freeze(0, 1);
    due("leastRiver() beside a frozen line", y.leastRiver(), 2);
    due("plan(24, 2) after it", y.plan(24, 2), 25);
  }

  static void promise21Type() {
    WhiteRivers x = new WhiteRivers();
    due("type(32)", x.type(32), 1);
    due("type(126)", x.type(126), 2);
    refused("type(31)", x, () -> x.type(31), -1);
    refused("type(127)", x, () -> x.type(127), -1);
    for (int length = 3; length <= 100; length++) due("type(97)", x.type(97), length);
    refused("type(97) behind 100 characters", x, () -> x.type(97), -3);
    refused("type(127) behind 100 characters", x, () -> x.type(127), -1);
    due("count(9)", x.count(9), 0);
    due("count(10)", x.count(10), 100);
  }

  static void promise22ClearText() {
    WhiteRivers x = new WhiteRivers();
    due("clearText() of no text", x.clearText(), 0);
    typed(x, "  a");
    due("clearText()", x.clearText(), 3);
    due("clearText() again", x.clearText(), 0);
    due("count(10)", x.count(10), 0);
    due("count(9)", x.count(9), 0);
    due("fault()", x.fault(), -4);
    due("type(98)", x.type(98), 1);
    due("fault()", x.fault(), -4);
  }

  static void promise23Fault() {
    dueFault("", -4);
    dueFault("a", -4);
    dueFault(" ", 0);
    dueFault(" a", 0);
    dueFault("a ", 1);
    dueFault("a  ", 2);
    dueFault("a  b", 2);
    dueFault("a b ", 3);
    dueFault("abcdefgh", -4);
    dueFault("abcdefghi", 8);
    dueFault("a bcdefghij ", 10);
    dueFault("abcdefgh ijklmnop", -4);
    String words = "a b c d e f g h i j k l m n o p q r s t u v w x";
    dueFault(words, -4);
    dueFault(words + " ", 47);
    dueFault(words + " yz", 48);
    dueFault(words + "yzabcdefg", 54);
    dueFault(words + " yzabcdefgh", 48);
    dueFault("! ~ 0", -4);
  }

  private static void dueFault(String text, int want) {
    WhiteRivers x = new WhiteRivers();
    typed(x, text);
    due("fault() of '" + text + "'", x.fault(), want);
    due("read() of '" + text + "'", x.read() < 0 ? 1 : 0, want < 0 ? 0 : 1);
  }

  static void promise24Read() {
    WhiteRivers x = joined();
    x.freeze(0, 1);
    x.freeze(2, 1);
    String before = words(x) + division(x);
    typed(x, "abcdefgh ijklmno pq r ");
    refused("read() of a text with a fault", x, x::read, -2);
    typed(x, "stu");
    due("read()", x.read(), 5);
    dueText("words and lines", words(x) + division(x), "87213|2|3");
    due("count(2)", x.count(2), 16);
    due("count(8)", x.count(8), 0);
    due("count(10)", x.count(10), 25);
    due("read() again", x.read(), 5);
    x.clearText();
    due("read() of no text", x.read(), 0);
    dueText("words and lines", words(x) + division(x), "");
    due("count(9)", x.count(9), 5);
    x.undo();
    x.undo();
    x.undo();
    dueText("words and lines of before", words(x) + division(x), before);
    due("count(10)", x.count(10), 0);
  }
}
