import java.util.function.Supplier;

/** The boundary cases of 'Changes and errors', and of the promise 13. */
public final class ChangeBoundaryTest extends Cases {
  public static void main(String[] args) {
    runAll(ChangeBoundaryTest.class);
  }

  /** Four words in two lines, |3|1, filled greedily; two states in the history. */
  private static WhiteRivers filled() {
    WhiteRivers x = text("abcd abcd abcd abcd");
    x.setWidth(16);
    x.read();
    return x;
  }

  /** The same words in lines of two; three states in the history. */
  private static WhiteRivers pushed() {
    WhiteRivers x = filled();
    x.push(0);
    return x;
  }

  /** The same, with a frozen line; four states in the history. */
  private static WhiteRivers frozen(int line) {
    WhiteRivers x = pushed();
    x.freeze(line, 1);
    return x;
  }

  /** As many changes: each adds a word. */
  private static WhiteRivers added(int words) {
    WhiteRivers x = new WhiteRivers();
    addMore(x, words);
    return x;
  }

  private static void addMore(WhiteRivers x, int words) {
    for (int word = 0; word < words; word++) x.add(x.count(0) % 8 + 1);
  }

  private static String lengths(int words) {
    return "123456781234567812345678".substring(0, words);
  }

  /** A change: there is one more state, to which undo leads back. */
  private static void change(String call, Supplier<WhiteRivers> made, Ask asked, int want) {
    WhiteRivers x = made.get();
    int states = x.count(9);
    due(call, asked.of(x), want);
    due("count(9) after " + call, x.count(9), states + 1);
    due("undo() of " + call, x.undo(), states);
    dueText("the state after undo() of " + call, state(x), state(made.get()));
  }

  /** A change by which nothing becomes different but the history. */
  private static void emptyChange(String call, Supplier<WhiteRivers> made, Ask asked, int want) {
    change(call, made, asked, want);
    WhiteRivers x = made.get();
    asked.of(x);
    dueText("the words and lines after " + call, words(x) + division(x), words(made.get()) + division(made.get()));
  }

  /** No change: neither the state nor the history become different. */
  private static void noChange(String call, Ask asked, int want) {
    refused(call, ChangeBoundaryTest::pushed, asked, want);
    refused(call + " with frozen lines", () -> frozen(0), asked, want);
  }

  /** Undoes all that can be undone: as many states, each with a word less. */
  private static void dueUndone(WhiteRivers x, int states) {
    int words = x.count(0);
    for (int left = states - 1; left >= 0; left--) {
      due("undo()", x.undo(), left);
      words--;
      dueText("the words after undo()", words(x), lengths(words));
    }
    due("undo() of the last state", x.undo(), NOT_POSSIBLE);
    dueText("the words after that", words(x), lengths(words));
  }

  // "The changes are the calls of setWidth, setSlack, add, remove, pull, push, freeze, reflow, dam and read"
  static void setWidthIsAChange() {
    change("setWidth(20)", ChangeBoundaryTest::pushed, x -> x.setWidth(20), 1);
  }

  static void setSlackIsAChange() {
    change("setSlack(2)", ChangeBoundaryTest::pushed, x -> x.setSlack(2), 6);
  }

  static void addIsAChange() {
    change("add(2) to the last line", ChangeBoundaryTest::pushed, x -> x.add(2), 4);
    change("add(8) as a line of its own", ChangeBoundaryTest::pushed, x -> x.add(8), 4);
    change("add(8) to no words", WhiteRivers::new, x -> x.add(8), 0);
  }

  static void removeIsAChange() {
    change("remove()", ChangeBoundaryTest::pushed, x -> x.remove(), 3);
    change("remove() with its line", ChangeBoundaryTest::filled, x -> x.remove(), 3);
    change("remove() of the only word", () -> added(1), x -> x.remove(), 0);
  }

  static void pullIsAChange() {
    change("pull(0)", ChangeBoundaryTest::pushed, x -> x.pull(0), 2);
  }

  static void pushIsAChange() {
    change("push(0)", ChangeBoundaryTest::pushed, x -> x.push(0), 2);
    change("push(1) of the last line", ChangeBoundaryTest::pushed, x -> x.push(1), 3);
  }

  static void freezeIsAChange() {
    change("freeze(1, 1)", ChangeBoundaryTest::pushed, x -> x.freeze(1, 1), 0);
    change("freeze(1, 0)", () -> frozen(1), x -> x.freeze(1, 0), 1);
  }

  static void reflowIsAChange() {
    change("reflow()", ChangeBoundaryTest::pushed, x -> x.reflow(), 2);
  }

  static void damIsAChange() {
    change("dam(24)", ChangeBoundaryTest::pushed, x -> x.dam(24), 2);
  }

  static void readIsAChange() {
    change("read()", ChangeBoundaryTest::pushed, x -> x.read(), 4);
    change("read() with a frozen line", () -> frozen(1), x -> x.read(), 4);
  }

  // "(also if nothing becomes different)"
  static void setWidthThatMakesNothingDifferent() {
    emptyChange("setWidth(16)", ChangeBoundaryTest::filled, x -> x.setWidth(16), 2);
    emptyChange("setWidth(24) without words", WhiteRivers::new, x -> x.setWidth(24), 0);
  }

  static void setSlackThatMakesNothingDifferent() {
    emptyChange("setSlack(6)", ChangeBoundaryTest::filled, x -> x.setSlack(6), 6);
    emptyChange("setSlack(6) without words", WhiteRivers::new, x -> x.setSlack(6), 6);
  }

  static void freezeThatMakesNothingDifferent() {
    emptyChange("freeze(0, 0)", ChangeBoundaryTest::filled, x -> x.freeze(0, 0), 0);
    emptyChange("freeze(1, 1)", () -> frozen(1), x -> x.freeze(1, 1), 1);
  }

  static void reflowThatMakesNothingDifferent() {
    emptyChange("reflow()", ChangeBoundaryTest::filled, x -> x.reflow(), 2);
    emptyChange("reflow() without words", WhiteRivers::new, x -> x.reflow(), 0);
  }

  static void damThatMakesNothingDifferent() {
    emptyChange("dam(24)", ChangeBoundaryTest::filled, x -> x.dam(24), 0);
    emptyChange("dam(1) without words", WhiteRivers::new, x -> x.dam(1), 0);
  }

  static void readThatMakesNothingDifferent() {
    emptyChange("read()", ChangeBoundaryTest::filled, x -> x.read(), 4);
    emptyChange("read() of no text without words", WhiteRivers::new, x -> x.read(), 0);
  }

  // What is not among the changes.
  static void countIsNoChange() {
    noChange("count(5)", x -> x.count(5), 2);
    noChange("count(9)", x -> x.count(9) > 0 ? 1 : 0, 1);
  }

  static void wordIsNoChange() {
    noChange("word(1, 2)", x -> x.word(1, 2), 12);
  }

  static void lineIsNoChange() {
    noChange("line(1, 6)", x -> x.line(1, 6), 2);
  }

  static void gapIsNoChange() {
    noChange("gap(1, 0, 2)", x -> x.gap(1, 0, 2), 2);
  }

  static void riverIsNoChange() {
    noChange("river(1, 0)", x -> x.river(1, 0), 0);
  }

  static void atIsNoChange() {
    noChange("at(1, 3)", x -> x.at(1, 3), 2);
  }

  static void planIsNoChange() {
    refused("plan(24, 0)", ChangeBoundaryTest::pushed, x -> x.plan(24, 0), 2);
    refused("plan(24, 0)", () -> frozen(0), x -> x.plan(24, 0), 0);
  }

  static void plannedIsNoChange() {
    refused("planned(24, 0)", ChangeBoundaryTest::pushed, x -> x.planned(24, 0), 3);
    refused("planned(24, 0)", () -> frozen(0), x -> x.planned(24, 0), 2);
  }

  static void leastRiverIsNoChange() {
    refused("leastRiver()", ChangeBoundaryTest::pushed, x -> x.leastRiver(), 1);
    refused("leastRiver()", () -> frozen(0), x -> x.leastRiver(), 2);
  }

  static void faultIsNoChange() {
    noChange("fault()", x -> x.fault(), NOT_FOUND);
  }

  static void typeIsNoChange() {
    WhiteRivers x = pushed();
    due("type(97)", x.type('a'), 20);
    due("count(9)", x.count(9), 3);
    dueDivision(x, "|2|2");
  }

  static void clearTextIsNoChange() {
    WhiteRivers x = pushed();
    due("clearText()", x.clearText(), 19);
    due("count(9)", x.count(9), 3);
    dueDivision(x, "|2|2");
  }

  static void undoIsNoChange() {
    WhiteRivers x = added(3);
    due("undo()", x.undo(), 2);
    due("undo()", x.undo(), 1);
    dueText("the words", words(x), "1");
  }

  // "A history of at most 5 states is kept"
  static void aNewColumnHasNoHistory() {
    due("count(9)", new WhiteRivers().count(9), 0);
  }

  static void theHistoryOfOneState() {
    WhiteRivers x = added(1);
    due("count(9)", x.count(9), 1);
    dueUndone(x, 1);
  }

  static void theHistoryOfFiveStates() {
    WhiteRivers x = added(5);
    due("count(9)", x.count(9), 5);
    dueUndone(x, 5);
    due("count(0)", x.count(0), 0);
  }

  // "and if there are 6 states then, the oldest one is dropped"
  static void the6thStateDropsTheOldestOne() {
    WhiteRivers x = added(6);
    due("count(9)", x.count(9), 5);
    dueUndone(x, 5);
    due("count(0)", x.count(0), 1);
  }

  static void the7thStateDropsTheOldestTwo() {
    dueUndone(added(7), 5);
  }

  static void the10thAndThe11thState() {
    dueUndone(added(10), 5);
    dueUndone(added(11), 5);
  }

  static void the24thState() {
    WhiteRivers x = added(24);
    due("count(9)", x.count(9), 5);
    dueUndone(x, 5);
    due("count(0)", x.count(0), 19);
  }

  static void aChangeAfterUndoOfOneOfFiveStatesDropsNone() {
    WhiteRivers x = added(5);
    x.undo();
    addMore(x, 1);
    due("count(9)", x.count(9), 5);
    dueUndone(x, 5);
  }

  static void changesAfterUndoOfAllFiveStates() {
    WhiteRivers x = added(7);
    for (int undone = 0; undone < 5; undone++) x.undo();
    addMore(x, 4);
    due("count(9)", x.count(9), 4);
    dueUndone(x, 4);
  }

  static void changesAndUndoneChangesInTurn() {
    WhiteRivers x = added(8);
    for (int undone = 0; undone < 3; undone++) x.undo();
    addMore(x, 4);
    due("count(0)", x.count(0), 9);
    for (int undone = 0; undone < 2; undone++) x.undo();
    addMore(x, 1);
    dueUndone(x, 4);
  }

  static void theHistoryAfterChangesThatMakeNothingDifferent() {
    WhiteRivers x = added(3);
    for (int time = 0; time < 5; time++) x.setSlack(6);
    for (int left = 4; left >= 0; left--) due("undo()", x.undo(), left);
    due("undo()", x.undo(), NOT_POSSIBLE);
    dueText("the words", words(x), "123");
  }

  // Promise 13: "NOT_POSSIBLE if it is empty"
  static void undoOfANewColumn() {
    refused("undo()", WhiteRivers::new, x -> x.undo(), NOT_POSSIBLE);
  }

  static void undoOfAColumnWithTheTextAlone() {
    refused("undo()", () -> text("ab c"), x -> x.undo(), NOT_POSSIBLE);
  }

  static void undoOfAnEmptiedHistory() {
    WhiteRivers x = added(1);
    x.undo();
    due("undo()", x.undo(), NOT_POSSIBLE);
    due("count(0)", x.count(0), 0);
    due("add(3)", x.add(3), 0);
    due("undo()", x.undo(), 0);
  }

  // "each change records everything before it but the text"
  static void undoRestoresTheWidth() {
    WhiteRivers x = lines(16, "4", "4");
    x.setWidth(40);
    x.undo();
    due("count(2)", x.count(2), 16);
    dueDivision(x, "|1|1");
  }

  static void undoRestoresTheSlack() {
    WhiteRivers x = slack(5, lines(16, "5 5", "8"));
    x.setSlack(4);
    due("plan(24, 0)", x.plan(24, 0), NOT_FOUND);
    x.undo();
    due("count(3)", x.count(3), 5);
    due("plan(24, 0)", x.plan(24, 0), 0);
  }

  static void undoRestoresWords() {
    WhiteRivers x = typed(lines(16, "8", "*7"), "abc");
    x.read();
    x.undo();
    dueText("the words", words(x), "87");
    dueDivision(x, "|1|1*");
  }

  static void undoRestoresARemovedWordAndItsLine() {
    WhiteRivers x = lines(16, "3", "4");
    x.remove();
    x.add(5);
    dueDivision(x, "|2");
    x.undo();
    x.undo();
    dueText("the words", words(x), "34");
    dueDivision(x, "|1|1");
  }

  static void undoRestoresLines() {
    WhiteRivers x = lines(16, "4", "4", "4");
    x.reflow();
    x.undo();
    dueDivision(x, "|1|1|1");
  }

  static void undoRestoresAThawedLine() {
    WhiteRivers x = lines(16, "*8", "*8");
    x.freeze(1, 0);
    x.undo();
    dueDivision(x, "|1*|1*");
  }

  static void undoRestoresALineThatWasNotFrozen() {
    WhiteRivers x = lines(16, "8", "*8");
    x.freeze(0, 1);
    x.undo();
    dueDivision(x, "|1|1*");
  }

  static void undoRestoresLinesOfBeforeADam() {
    WhiteRivers x = slack(2, lines(16, "4", "4 4", "*8 7", "1"));
    due("dam(24)", x.dam(24), 1);
    x.undo();
    dueDivision(x, "|1|2|2*|1");
    due("plan(24, 0)", x.plan(24, 0), 1);
  }

  static void undoRestoresNoText() {
    WhiteRivers x = text("ab");
    x.add(3);
    typed(x, " c");
    x.undo();
    due("count(10)", x.count(10), 4);
    x.read();
    dueText("the words", words(x), "21");
    x.clearText();
    x.undo();
    due("count(10)", x.count(10), 0);
  }

  static void undoneChangesAndTheBestDivision() {
    WhiteRivers x = pushed();
    due("plan(24, 0)", x.plan(24, 0), 2);
    x.undo();
    due("plan(24, 0) of the lines of before", x.plan(24, 0), 0);
    x.undo();
    due("plan(24, 1) without words", x.plan(24, 1), 0);
  }

  // "INVALID_ARGUMENT is returned rather than NOT_POSSIBLE"
  static void setWidthOutOfRangeWithAFrozenLine() {
    refused("setWidth(15)", () -> frozen(0), x -> x.setWidth(15), INVALID_ARGUMENT);
    refused("setWidth(41)", () -> frozen(1), x -> x.setWidth(41), INVALID_ARGUMENT);
  }

  static void damOutOfRangeWithoutADivision() {
    refused("dam(0)", () -> slack(0, pushed()), x -> x.dam(0), INVALID_ARGUMENT);
    refused("dam(25)", () -> slack(0, pushed()), x -> x.dam(25), INVALID_ARGUMENT);
  }

  static void pullAndPushOfNoLineBesideAFrozenOne() {
    refused("pull(2)", () -> frozen(1), x -> x.pull(2), INVALID_ARGUMENT);
    refused("pull(-1)", () -> frozen(0), x -> x.pull(-1), INVALID_ARGUMENT);
    refused("push(2)", () -> frozen(1), x -> x.push(2), INVALID_ARGUMENT);
    refused("push(-1)", () -> frozen(0), x -> x.push(-1), INVALID_ARGUMENT);
  }

  // "... rather than LIMIT_REACHED"
  static void addOutOfRangeTo24Words() {
    refused("add(0)", () -> added(24), x -> x.add(0), INVALID_ARGUMENT);
    refused("add(9)", () -> added(24), x -> x.add(9), INVALID_ARGUMENT);
  }

  static void typeOutOfRangeTo100Characters() {
    refused("type(31)", () -> text("a".repeat(100)), x -> x.type(31), INVALID_ARGUMENT);
    refused("type(127)", () -> text("a".repeat(100)), x -> x.type(127), INVALID_ARGUMENT);
  }

  // "... rather than NOT_FOUND"
  static void riverOutOfRangeWithoutARiver() {
    refused("river(-1, 0)", WhiteRivers::new, x -> x.river(-1, 0), INVALID_ARGUMENT);
    refused("river(0, -1)", WhiteRivers::new, x -> x.river(0, -1), INVALID_ARGUMENT);
    refused("river(0, 2)", WhiteRivers::new, x -> x.river(0, 2), INVALID_ARGUMENT);
  }

  static void riverOutOfRangeBehindTheRiver() {
    refused("river(9, 2)", ChangeBoundaryTest::pushed, x -> x.river(9, 2), INVALID_ARGUMENT);
    refused("river(9, -1)", ChangeBoundaryTest::pushed, x -> x.river(9, -1), INVALID_ARGUMENT);
  }

  static void planOutOfRangeWithoutADivision() {
    refused("plan(0, 0)", () -> slack(0, pushed()), x -> x.plan(0, 0), INVALID_ARGUMENT);
    refused("plan(25, 0)", () -> slack(0, pushed()), x -> x.plan(25, 0), INVALID_ARGUMENT);
    refused("plan(1, -1)", () -> slack(0, pushed()), x -> x.plan(1, -1), INVALID_ARGUMENT);
    refused("plan(1, 4)", () -> slack(0, pushed()), x -> x.plan(1, 4), INVALID_ARGUMENT);
  }

  static void plannedOutOfRangeWithoutADivision() {
    refused("planned(0, 0)", () -> slack(0, pushed()), x -> x.planned(0, 0), INVALID_ARGUMENT);
    refused("planned(25, 0)", () -> slack(0, pushed()), x -> x.planned(25, 0), INVALID_ARGUMENT);
    refused("planned(1, -1)", () -> slack(0, pushed()), x -> x.planned(1, -1), INVALID_ARGUMENT);
  }

  static void plannedOutOfRangeBehindTheLastLine() {
    refused("planned(25, 9)", ChangeBoundaryTest::pushed, x -> x.planned(25, 9), INVALID_ARGUMENT);
    refused("planned(0, 9)", ChangeBoundaryTest::pushed, x -> x.planned(0, 9), INVALID_ARGUMENT);
  }

  static void atOutOfRangeWhereThereIsNoWord() {
    refused("at(1, 16)", ChangeBoundaryTest::pushed, x -> x.at(1, 16), INVALID_ARGUMENT);
    refused("at(2, 9)", ChangeBoundaryTest::pushed, x -> x.at(2, 9), INVALID_ARGUMENT);
  }

  // "A call that returns an error changes nothing.": here with a history that is neither empty nor full.
  static void setWidthThatIsRefused() {
    refused("setWidth(15)", ChangeBoundaryTest::pushed, x -> x.setWidth(15), INVALID_ARGUMENT);
    refused("setWidth(20)", () -> frozen(0), x -> x.setWidth(20), NOT_POSSIBLE);
  }

  static void setSlackThatIsRefused() {
    refused("setSlack(9)", ChangeBoundaryTest::pushed, x -> x.setSlack(9), INVALID_ARGUMENT);
  }

  static void addThatIsRefused() {
    refused("add(9)", ChangeBoundaryTest::pushed, x -> x.add(9), INVALID_ARGUMENT);
    refused("add(1)", ChangeBoundaryTest::read24, x -> x.add(1), LIMIT_REACHED);
  }

  /** 24 words, and one state in the history. */
  private static WhiteRivers read24() {
    WhiteRivers x = text(shortWords(24));
    x.read();
    return x;
  }

  static void removeThatIsRefused() {
    refused("remove()", () -> frozen(1), x -> x.remove(), NOT_POSSIBLE);
    refused("remove()", () -> slack(3, new WhiteRivers()), x -> x.remove(), NOT_POSSIBLE);
  }

  static void pullThatIsRefused() {
    refused("pull(2)", ChangeBoundaryTest::pushed, x -> x.pull(2), INVALID_ARGUMENT);
    refused("pull(1)", ChangeBoundaryTest::pushed, x -> x.pull(1), NOT_POSSIBLE);
    refused("pull(0)", () -> frozen(0), x -> x.pull(0), NOT_POSSIBLE);
    refused("pull(0)", () -> frozen(1), x -> x.pull(0), NOT_POSSIBLE);
    refused("pull(0)", ChangeBoundaryTest::filled, x -> x.pull(0), NOT_POSSIBLE);
  }

  static void pushThatIsRefused() {
    refused("push(2)", ChangeBoundaryTest::pushed, x -> x.push(2), INVALID_ARGUMENT);
    refused("push(1)", ChangeBoundaryTest::filled, x -> x.push(1), NOT_POSSIBLE);
    refused("push(0)", () -> frozen(0), x -> x.push(0), NOT_POSSIBLE);
    refused("push(0)", () -> frozen(1), x -> x.push(0), NOT_POSSIBLE);
  }

  static void freezeThatIsRefused() {
    refused("freeze(2, 1)", () -> frozen(1), x -> x.freeze(2, 1), INVALID_ARGUMENT);
    refused("freeze(1, 2)", () -> frozen(1), x -> x.freeze(1, 2), INVALID_ARGUMENT);
  }

  static void reflowThatIsRefused() {
    refused("reflow()", () -> frozen(0), x -> x.reflow(), NOT_POSSIBLE);
    refused("reflow()", () -> frozen(1), x -> x.reflow(), NOT_POSSIBLE);
  }

  static void damThatIsRefused() {
    refused("dam(25)", ChangeBoundaryTest::pushed, x -> x.dam(25), INVALID_ARGUMENT);
    refused("dam(1)", () -> frozen(0), x -> x.dam(1), NOT_POSSIBLE);
  }

  static void typeThatIsRefused() {
    refused("type(31)", ChangeBoundaryTest::pushed, x -> x.type(31), INVALID_ARGUMENT);
    refused("type(97)", () -> text("a".repeat(100)), x -> x.type('a'), LIMIT_REACHED);
  }

  static void readThatIsRefused() {
    refused("read()", () -> typed(frozen(0), " "), x -> x.read(), NOT_POSSIBLE);
  }

  static void askingThatIsRefused() {
    refused("count(12)", () -> frozen(0), x -> x.count(12), INVALID_ARGUMENT);
    refused("word(4, 0)", () -> frozen(0), x -> x.word(4, 0), INVALID_ARGUMENT);
    refused("line(2, 0)", () -> frozen(0), x -> x.line(2, 0), INVALID_ARGUMENT);
    refused("gap(0, 1, 0)", () -> frozen(0), x -> x.gap(0, 1, 0), INVALID_ARGUMENT);
    refused("river(2, 0)", () -> frozen(0), x -> x.river(2, 0), NOT_FOUND);
    refused("at(0, 4)", () -> frozen(0), x -> x.at(0, 4), NOT_FOUND);
    refused("plan(1, 0)", () -> frozen(0), x -> x.plan(1, 0), NOT_FOUND);
    refused("planned(1, 0)", () -> frozen(0), x -> x.planned(1, 0), NOT_FOUND);
    refused("planned(2, 2)", () -> frozen(0), x -> x.planned(2, 2), NOT_FOUND);
    refused("leastRiver()", () -> slack(0, pushed()), x -> x.leastRiver(), NOT_FOUND);
    refused("fault()", () -> frozen(0), x -> x.fault(), NOT_FOUND);
  }

  // Each call answers for the state of now, also as the first one after a change.
  static void wordRightAfterAChange() {
    WhiteRivers x = pushed();
    due("word(1, 2)", x.word(1, 2), 12);
    x.pull(0);
    due("word(1, 2)", x.word(1, 2), 6);
  }

  static void lineRightAfterAChange() {
    WhiteRivers x = pushed();
    due("line(1, 6)", x.line(1, 6), 2);
    x.pull(0);
    due("line(1, 6)", x.line(1, 6), 0);
  }

  static void countRightAfterAChange() {
    WhiteRivers x = pushed();
    due("count(5)", x.count(5), 2);
    x.pull(0);
    due("count(5)", x.count(5), 1);
  }

  static void gapRightAfterAChange() {
    WhiteRivers x = pushed();
    due("gap(0, 0, 1)", x.gap(0, 0, 1), 8);
    x.pull(0);
    due("gap(0, 0, 1)", x.gap(0, 0, 1), 2);
  }

  static void riverRightAfterAChange() {
    WhiteRivers x = pushed();
    due("river(0, 0)", x.river(0, 0), 1);
    x.pull(0);
    due("river(0, 0)", x.river(0, 0), 0);
  }

  static void atRightAfterAChange() {
    WhiteRivers x = pushed();
    due("at(0, 6)", x.at(0, 6), NOT_FOUND);
    x.pull(0);
    due("at(0, 6)", x.at(0, 6), 1);
    x.undo();
    due("at(0, 6)", x.at(0, 6), NOT_FOUND);
  }

  static void planRightAfterAChange() {
    WhiteRivers x = pushed();
    due("plan(24, 0)", x.plan(24, 0), 2);
    x.pull(0);
    due("plan(24, 0)", x.plan(24, 0), 0);
    x.setSlack(1);
    due("plan(24, 0)", x.plan(24, 0), NOT_FOUND);
  }

  static void plannedRightAfterAChange() {
    WhiteRivers x = pushed();
    due("planned(24, 1)", x.planned(24, 1), 1);
    x.add(4);
    due("planned(24, 1)", x.planned(24, 1), 2);
  }

  static void damRightAfterAChange() {
    WhiteRivers x = pushed();
    due("plan(24, 0)", x.plan(24, 0), 2);
    x.freeze(1, 1);
    due("dam(24)", x.dam(24), NOT_POSSIBLE);
  }

  static void leastRiverRightAfterAChange() {
    WhiteRivers x = pushed();
    due("leastRiver()", x.leastRiver(), 1);
    x.setSlack(8);
    due("leastRiver()", x.leastRiver(), 1);
    x.freeze(1, 1);
    due("leastRiver()", x.leastRiver(), 2);
  }

  static void leastRiverRightAfterAPlanForAnotherLength() {
    WhiteRivers x = pushed();
    due("plan(24, 0)", x.plan(24, 0), 2);
    x.add(4);
    due("leastRiver()", x.leastRiver(), 2);
    due("plan(1, 0)", x.plan(1, 0), NOT_FOUND);
    due("plan(24, 0)", x.plan(24, 0), 2);
  }

  // The constants.
  static void theConstants() {
    due("INVALID_ARGUMENT", WhiteRivers.INVALID_ARGUMENT, -1);
    due("NOT_POSSIBLE", WhiteRivers.NOT_POSSIBLE, -2);
    due("LIMIT_REACHED", WhiteRivers.LIMIT_REACHED, -3);
    due("NOT_FOUND", WhiteRivers.NOT_FOUND, -4);
  }

  // "An object is used for at most 512 calls after it has been made"
  static void the512thCall() {
    WhiteRivers x = new WhiteRivers();
    for (int call = 1; call <= 254; call++) {
      due("type(97)", x.type('a'), 1);
      due("clearText()", x.clearText(), 1);
    }
    due("add(5), the 509th call", x.add(5), 0);
    due("freeze(0, 1), the 510th call", x.freeze(0, 1), 0);
    due("count(9), the 511th call", x.count(9), 2);
    due("undo(), the 512th call", x.undo(), 1);
  }

  static void as512Changes() {
    WhiteRivers x = new WhiteRivers();
    for (int change = 0; change < 506; change++) due("setSlack", x.setSlack(change % 9), change == 0 ? 6 : (change + 8) % 9);
    for (int left = 4; left >= 0; left--) due("undo()", x.undo(), left);
    due("count(3)", x.count(3), 500 % 9);
  }

  static void objectsDoNotShareTheirState() {
    WhiteRivers x = pushed();
    WhiteRivers y = new WhiteRivers();
    y.add(3);
    y.type('a');
    due("count(0)", x.count(0), 4);
    due("count(10)", x.count(10), 19);
    due("count(9) of the other one", y.count(9), 1);
    due("count(2) of the other one", y.count(2), 24);
  }
}
