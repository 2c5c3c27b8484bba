/** The boundary cases of 'Words and lines', and of the promises 1 to 9, 11 and 12. */
public final class LineBoundaryTest extends Cases {
  public static void main(String[] args) {
    runAll(LineBoundaryTest.class);
  }

  /** A column of as many words of one length, filled greedily. */
  private static WhiteRivers alike(int width, int words, int length) {
    WhiteRivers x = new WhiteRivers();
    x.setWidth(width);
    for (int word = 0; word < words; word++) x.add(length);
    return x;
  }

  private static String gapWidths(WhiteRivers x, int line) {
    StringBuilder s = new StringBuilder();
    int gaps = x.line(line, 4);
    for (int gap = 0; gap < gaps; gap++) s.append(x.gap(line, gap, 1)).append(' ');
    return s.toString().trim();
  }

  // Promise 1: "Creates a column without words."
  static void aNewColumnHasNoWordsAndNoLines() {
    due("count(0)", new WhiteRivers().count(0), 0);
    due("count(1)", new WhiteRivers().count(1), 0);
    due("count(6)", new WhiteRivers().count(6), 0);
    due("count(8)", new WhiteRivers().count(8), 0);
  }

  static void aNewColumnHasNoBadnessAndNoRiver() {
    due("count(4)", new WhiteRivers().count(4), 0);
    due("count(5)", new WhiteRivers().count(5), 0);
    due("count(7)", new WhiteRivers().count(7), 0);
    due("count(11)", new WhiteRivers().count(11), 0);
  }

  // "The column has a width W (16 to 40, initially 24)"
  static void aNewColumnIs24Wide() {
    due("count(2)", new WhiteRivers().count(2), 24);
    WhiteRivers x = new WhiteRivers();
    for (int length : new int[] {8, 8, 6}) x.add(length);
    dueDivision(x, "|3");
    x.remove();
    x.add(7);
    dueDivision(x, "|2|1");
  }

  // "a setting, 0 to 8, initially 6"
  static void aNewColumnHasTheSlack6() {
    due("count(3)", new WhiteRivers().count(3), 6);
    due("setSlack(1)", new WhiteRivers().setSlack(1), 6);
  }

  // "There are at most 24 words"
  static void the24thWordIsAdded() {
    WhiteRivers x = alike(40, 23, 1);
    due("add(1)", x.add(1), 23);
    due("count(0)", x.count(0), 24);
  }

  static void the25thWordIsNotAdded() {
    refused("add(1)", () -> alike(40, 24, 1), x -> x.add(1), LIMIT_REACHED);
    refused("add(8)", () -> alike(40, 24, 8), x -> x.add(8), LIMIT_REACHED);
  }

  static void a24thWordIsAddedAgainAfterOneIsRemoved() {
    WhiteRivers x = alike(40, 24, 1);
    due("remove()", x.remove(), 23);
    due("add(1)", x.add(1), 23);
    due("add(1)", x.add(1), LIMIT_REACHED);
  }

  static void the25thWordIsNotAddedBehindAFrozenLine() {
    WhiteRivers x = alike(40, 24, 1);
    x.freeze(1, 1);
    due("add(1)", x.add(1), LIMIT_REACHED);
  }

  // "each with a length from 1 to 8"
  static void wordsOfTheLengths1And8() {
    WhiteRivers x = new WhiteRivers();
    x.add(1);
    x.add(8);
    dueText("the words", words(x), "18");
  }

  static void a24thLine() {
    WhiteRivers x = alike(16, 24, 8);
    due("count(1)", x.count(1), 24);
    due("word(23, 1)", x.word(23, 1), 23);
    due("line(23, 0)", x.line(23, 0), 23);
  }

  static void the24ShortestWordsInTheWidestColumn() {
    WhiteRivers x = alike(40, 24, 1);
    dueDivision(x, "|20|4");
    due("count(6)", x.count(6), 22);
  }

  // "A line fits if the sum of its words' lengths and one for each gap ... is at most W."
  static void addToALineThatIsThenFull() {
    WhiteRivers x = lines(16, "8");
    due("add(7)", x.add(7), 1);
    dueDivision(x, "|2");
    due("line(0, 2)", x.line(0, 2), 0);
  }

  static void addToALineThatDoesNotFitThen() {
    WhiteRivers x = lines(16, "8");
    due("add(8)", x.add(8), 1);
    dueDivision(x, "|1|1");
  }

  static void addTo39And40And41Columns() {
    WhiteRivers x = lines(40, "8 8 8 8");
    x.add(3);
    dueDivision(x, "|5");
    x.undo();
    x.add(4);
    dueDivision(x, "|5");
    x.undo();
    x.add(5);
    dueDivision(x, "|4|1");
  }

  static void addToAFullLine() {
    WhiteRivers x = lines(16, "8 7");
    x.add(1);
    dueDivision(x, "|2|1");
  }

  static void pullToALineThatIsThenFull() {
    WhiteRivers x = lines(16, "8", "7 1");
    due("pull(0)", x.pull(0), 2);
    dueDivision(x, "|2|1");
  }

  static void pullToALineThatWouldNotFit() {
    refused("pull(0)", () -> lines(16, "8", "8 1"), x -> x.pull(0), NOT_POSSIBLE);
  }

  static void pushToALineThatIsThenFull() {
    WhiteRivers x = lines(16, "1 8", "7");
    due("push(0)", x.push(0), 2);
    dueDivision(x, "|1|2");
  }

  static void pushToALineThatWouldNotFit() {
    refused("push(0)", () -> lines(16, "1 8", "8"), x -> x.push(0), NOT_POSSIBLE);
  }

  static void setWidthAtWhichTwoWordsJustFit() {
    WhiteRivers x = lines(16, "8", "8", "1");
    due("setWidth(16)", x.setWidth(16), 2);
    dueDivision(x, "|1|2");
    due("setWidth(17)", x.setWidth(17), 2);
    dueDivision(x, "|2|1");
    due("setWidth(18)", x.setWidth(18), 2);
    due("setWidth(19)", x.setWidth(19), 1);
  }

  static void reflowAtWhichTwoWordsJustFit() {
    WhiteRivers x = lines(16, "8", "7");
    due("reflow()", x.reflow(), 1);
    WhiteRivers y = lines(16, "8", "8");
    due("reflow()", y.reflow(), 2);
  }

  // "To fill greedily means to put into each line, from the first one on, as many of the words that are left as fit."
  static void fillingTakesWordsFromLaterLines() {
    WhiteRivers x = lines(16, "4", "4", "4", "4", "4");
    due("reflow()", x.reflow(), 2);
    dueDivision(x, "|3|2");
  }

  static void fillingGivesWordsToLaterLines() {
    WhiteRivers x = lines(40, "8 8 8 8", "1");
    due("setWidth(16)", x.setWidth(16), 4);
    dueDivision(x, "|1|1|1|2");
  }

  static void aShortWordBehindALongOneStaysBehindIt() {
    WhiteRivers x = lines(16, "8", "8", "1", "8");
    x.reflow();
    dueDivision(x, "|1|2|1");
    dueText("the words", words(x), "8818");
  }

  static void fillingNoWords() {
    due("reflow()", new WhiteRivers().reflow(), 0);
    due("setWidth(16)", new WhiteRivers().setWidth(16), 0);
  }

  static void fillingOneWord() {
    due("reflow()", lines(16, "8").reflow(), 1);
    due("setWidth(16)", lines(40, "8").setWidth(16), 1);
  }

  // "The extra of a line is W minus this sum."
  static void theExtraOfAFullLine() {
    due("line(0, 2)", lines(16, "5 5 4", "1").line(0, 2), 0);
    due("line(0, 3)", lines(16, "5 5 4", "1").line(0, 3), 0);
  }

  static void theExtraOfALineWithOneWord() {
    due("line(0, 2)", lines(16, "8", "8").line(0, 2), 8);
    due("line(0, 3)", lines(16, "8", "8").line(0, 3), 64);
    due("line(0, 2)", lines(40, "1", "8").line(0, 2), 39);
    due("line(0, 3)", lines(40, "1", "8").line(0, 3), 1521);
  }

  static void theExtraOfALineWithTwoWords() {
    due("line(0, 2)", lines(16, "1 1", "8").line(0, 2), 13);
  }

  // "In the last line nothing is given (its extra is told all the same)."
  static void theExtraOfTheLastLineIsTold() {
    due("line(1, 2)", lines(16, "8", "1 1 1").line(1, 2), 11);
    due("line(0, 2) of the only line", lines(16, "8").line(0, 2), 8);
  }

  static void theGapsOfTheLastLineGetNothing() {
    dueText("the gaps", gapWidths(lines(16, "8", "1 1 1"), 1), "1 1");
    dueText("line 1", drawn(lines(16, "8", "1 1 1"), 1), "b.c.d...........");
  }

  static void theGapsOfTheOnlyLineGetNothing() {
    dueText("line 0", drawn(lines(16, "2 2"), 0), "aa.bb...........");
  }

  static void theGapsOfTheLineBeforeTheLastOneGetItsExtra() {
    dueText("line 0", drawn(lines(16, "2 2", "8"), 0), "aa............bb");
  }

  static void aLineThatBecomesTheLastOneLosesItsWiderGaps() {
    WhiteRivers x = lines(16, "2 2", "8");
    x.remove();
    dueText("line 0", drawn(x, 0), "aa.bb...........");
    due("count(4)", x.count(4), 0);
  }

  static void aLineThatIsTheLastOneNoMoreGetsWiderGaps() {
    WhiteRivers x = lines(16, "2 2 2");
    x.push(0);
    dueText("line 0", drawn(x, 0), "aa............bb");
    due("count(4)", x.count(4), 121);
  }

  // "with g gaps, each one gets extra / g, and the first extra modulo g ones get one more"
  static void anExtraOf0For2Gaps() {
    dueText("line 0", drawn(lines(16, "5 5 4", "1"), 0), "aaaaa.bbbbb.cccc");
  }

  static void anExtraOf1For2Gaps() {
    dueText("line 0", drawn(lines(16, "5 4 4", "8"), 0), "aaaaa..bbbb.cccc");
  }

  static void anExtraOf2For2Gaps() {
    dueText("line 0", drawn(lines(16, "4 4 4", "8"), 0), "aaaa..bbbb..cccc");
  }

  static void anExtraOf3For2Gaps() {
    dueText("line 0", drawn(lines(16, "4 4 3", "8"), 0), "aaaa...bbbb..ccc");
  }

  static void anExtraOf2For3Gaps() {
    dueText("the gaps", gapWidths(lines(16, "3 3 3 2", "8"), 0), "2 2 1");
  }

  static void anExtraOf3For3Gaps() {
    dueText("the gaps", gapWidths(lines(16, "3 3 3 1", "8"), 0), "2 2 2");
  }

  static void anExtraOf5For3Gaps() {
    dueText("the gaps", gapWidths(lines(16, "2 2 2 2", "8"), 0), "3 3 2");
  }

  static void anExtraOf37ForOneGap() {
    dueText("the gaps", gapWidths(lines(40, "1 1", "8"), 0), "38");
    due("word(1, 2)", lines(40, "1 1", "8").word(1, 2), 39);
  }

  static void theExtraOfALaterLineIsGivenToItsGaps() {
    dueText("line 1", drawn(lines(16, "8", "4 4 3", "8"), 1), "bbbb...cccc..ddd");
  }

  // "a line without gaps keeps it at its end"; "the first word of a line begins at the column 0"
  static void aLineWithOneWordKeepsItsExtraAtItsEnd() {
    dueText("line 0", drawn(lines(16, "3", "8"), 0), "aaa.............");
    dueText("line 1", drawn(lines(16, "8", "3", "8"), 1), "bbb.............");
    due("line(0, 4)", lines(16, "3", "8").line(0, 4), 0);
  }

  static void theFirstWordOfEachLineBeginsAt0() {
    WhiteRivers x = lines(16, "4 4", "8", "2 2");
    due("word(0, 2)", x.word(0, 2), 0);
    due("word(2, 2)", x.word(2, 2), 0);
    due("word(3, 2)", x.word(3, 2), 0);
  }

  // "The badness of a line is its extra * extra, and 0 for the last one."
  static void theBadnessOfTheLastLine() {
    due("line(1, 3)", lines(16, "8", "1").line(1, 3), 0);
    due("line(0, 3) of the only line", lines(16, "1").line(0, 3), 0);
  }

  static void theSumOfBadness() {
    due("count(4) of one line", lines(16, "1").count(4), 0);
    due("count(4) of two lines", lines(16, "8", "1").count(4), 64);
    due("count(4) of three lines", lines(16, "8", "7", "1").count(4), 64 + 81);
    due("count(4) with a frozen line", lines(16, "*8", "7", "1").count(4), 64 + 81);
    due("count(4) of full lines", lines(16, "8 7", "7 8", "1").count(4), 0);
  }

  static void theSumOfTheMostBadness() {
    WhiteRivers x = new WhiteRivers();
    x.setWidth(40);
    for (int word = 0; word < 24; word++) {
      x.add(1);
      x.freeze(word, 1);
    }
    due("count(4)", x.count(4), 23 * 39 * 39);
  }

  // "All lines fit, always."
  static void allLinesFitWhenNothingMoreCanBePushedOrPulled() {
    WhiteRivers x = lines(16, "4 4 4", "3 3 3 3", "2 2 2 2 2", "5 5");
    for (int line = 0; line < 4; line++) {
      for (int time = 0; time < 6; time++) x.push(line);
      for (int time = 0; time < 6; time++) x.pull(0);
    }
    int lines = x.count(1);
    for (int line = 0; line < lines; line++) {
      due("the extra of line " + line + " is 0 or more", x.line(line, 2) >= 0 ? 1 : 0, 1);
      due("line " + line + " has a word", x.line(line, 1) >= 1 ? 1 : 0, 1);
    }
    dueText("the words", words(x), "44433332222255");
  }

  // Promise 2: "Sets the width, and fills all lines greedily."
  static void theNarrowestAndTheWidestColumn() {
    WhiteRivers x = lines(20, "8 8", "8");
    x.setWidth(16);
    due("count(2)", x.count(2), 16);
    dueDivision(x, "|1|1|1");
    x.setWidth(40);
    due("count(2)", x.count(2), 40);
    dueDivision(x, "|3");
  }

  static void setWidthToTheSameWidthFillsLines() {
    WhiteRivers x = lines(24, "4", "4");
    due("setWidth(24)", x.setWidth(24), 1);
  }

  static void setWidthWithTheFirstLineFrozen() {
    refused("setWidth(20)", () -> lines(16, "*8", "8", "8"), x -> x.setWidth(20), NOT_POSSIBLE);
  }

  static void setWidthWithTheLastLineFrozen() {
    refused("setWidth(20)", () -> lines(16, "8", "8", "*8"), x -> x.setWidth(20), NOT_POSSIBLE);
  }

  static void setWidthToTheSameWidthWithALineFrozen() {
    refused("setWidth(16)", () -> lines(16, "8", "*8", "8"), x -> x.setWidth(16), NOT_POSSIBLE);
  }

  static void setWidthWithAThawedLine() {
    WhiteRivers x = lines(16, "8", "*8", "8");
    x.freeze(1, 0);
    due("setWidth(17)", x.setWidth(17), 2);
  }

  // Promise 3: "Returns the previous slack"
  static void setSlackTellsTheSlackBefore() {
    WhiteRivers x = new WhiteRivers();
    due("setSlack(8)", x.setSlack(8), 6);
    due("setSlack(0)", x.setSlack(0), 8);
    due("setSlack(0)", x.setSlack(0), 0);
    due("count(3)", x.count(3), 0);
  }

  static void theLeastAndTheMostSlack() {
    due("count(3)", slack(0, new WhiteRivers()).count(3), 0);
    due("count(3)", slack(8, new WhiteRivers()).count(3), 8);
  }

  static void setSlackWithAllLinesFrozen() {
    due("setSlack(0)", lines(16, "*8", "*8").setSlack(0), 6);
  }

  static void setSlackLeavesLinesBeyondIt() {
    WhiteRivers x = lines(16, "8", "8");
    x.setSlack(0);
    dueDivision(x, "|1|1");
  }

  // Promise 4: "to the last line, if this is not frozen and fits then, otherwise as a line of its own"
  static void addToNoWords() {
    WhiteRivers x = new WhiteRivers();
    due("add(3)", x.add(3), 0);
    dueDivision(x, "|1");
  }

  static void addToAFrozenLineThatWouldFit() {
    WhiteRivers x = lines(16, "*1");
    due("add(1)", x.add(1), 1);
    dueDivision(x, "|1*|1");
  }

  static void addToAThawedLine() {
    WhiteRivers x = lines(16, "*1");
    x.freeze(0, 0);
    x.add(1);
    dueDivision(x, "|2");
  }

  static void addToALineBehindAFrozenOne() {
    WhiteRivers x = lines(16, "*1", "1");
    x.add(1);
    dueDivision(x, "|1*|2");
  }

  static void addLeavesLinesBeforeTheLastOne() {
    WhiteRivers x = lines(16, "1", "1", "8");
    x.add(8);
    dueDivision(x, "|1|1|1|1");
  }

  // Promise 5: "Removes the last word (and its line, if it has no other one)."
  static void removeFromALineWithTwoWords() {
    WhiteRivers x = lines(16, "8", "1 2");
    due("remove()", x.remove(), 2);
    dueDivision(x, "|1|1");
    dueText("the words", words(x), "81");
  }

  static void removeFromALineWithOneWord() {
    WhiteRivers x = lines(16, "8", "1");
    due("remove()", x.remove(), 1);
    dueDivision(x, "|1");
  }

  static void removeTheOnlyWord() {
    WhiteRivers x = lines(16, "8");
    due("remove()", x.remove(), 0);
    dueDivision(x, "");
  }

  static void removeWithoutWords() {
    refused("remove()", WhiteRivers::new, x -> x.remove(), NOT_POSSIBLE);
    WhiteRivers x = lines(16, "8");
    x.remove();
    due("remove()", x.remove(), NOT_POSSIBLE);
  }

  static void removeTheLastWordOfAFrozenLine() {
    refused("remove() of one word", () -> lines(16, "8", "*8"), x -> x.remove(), NOT_POSSIBLE);
    refused("remove() of two words", () -> lines(16, "8", "*1 1"), x -> x.remove(), NOT_POSSIBLE);
    refused("remove() of the only line", () -> lines(16, "*8"), x -> x.remove(), NOT_POSSIBLE);
  }

  static void removeBehindAFrozenLine() {
    WhiteRivers x = lines(16, "*8", "8");
    due("remove()", x.remove(), 1);
    dueDivision(x, "|1*");
    due("remove()", x.remove(), NOT_POSSIBLE);
  }

  static void removeFromAThawedLine() {
    WhiteRivers x = lines(16, "*8");
    x.freeze(0, 0);
    due("remove()", x.remove(), 0);
  }

  static void aWordAddedWhereALineWasRemoved() {
    WhiteRivers x = lines(16, "8", "8");
    x.remove();
    x.add(7);
    dueDivision(x, "|2");
  }

  // Promise 6: "NOT_POSSIBLE if there is no next line, one of both is frozen, or the line would not fit"
  static void pullToTheLastLine() {
    refused("pull(1)", () -> lines(16, "1 1", "1 1"), x -> x.pull(1), NOT_POSSIBLE);
  }

  static void pullToTheOnlyLine() {
    refused("pull(0)", () -> lines(16, "1 1"), x -> x.pull(0), NOT_POSSIBLE);
  }

  static void pullToAFrozenLine() {
    refused("pull(0)", () -> lines(16, "*1 1", "1 1"), x -> x.pull(0), NOT_POSSIBLE);
  }

  static void pullFromAFrozenLine() {
    refused("pull(0)", () -> lines(16, "1 1", "*1 1"), x -> x.pull(0), NOT_POSSIBLE);
    refused("pull(0) of its only word", () -> lines(16, "1 1", "*1"), x -> x.pull(0), NOT_POSSIBLE);
  }

  static void pullBetweenFrozenLines() {
    WhiteRivers x = lines(16, "*1", "1", "1 1", "*1");
    due("pull(1)", x.pull(1), 4);
    dueDivision(x, "|1*|2|1|1*");
  }

  static void pullBetweenThawedLines() {
    WhiteRivers x = lines(16, "*1", "*1 1");
    x.freeze(0, 0);
    due("pull(0)", x.pull(0), NOT_POSSIBLE);
    x.freeze(1, 0);
    due("pull(0)", x.pull(0), 2);
  }

  // "(If the next line has no other word, it is no line any more.)"
  static void pullTheOnlyWordOfTheLastLine() {
    WhiteRivers x = lines(16, "1", "1");
    due("pull(0)", x.pull(0), 1);
    dueDivision(x, "|2");
  }

  static void aWordAddedWhereALineWasPulledAway() {
    WhiteRivers x = lines(16, "1", "1");
    x.pull(0);
    due("add(1)", x.add(1), 2);
    dueDivision(x, "|3");
  }

  static void aWordAddedWhereALineWasFilledAway() {
    WhiteRivers x = lines(16, "1", "1", "1");
    x.reflow();
    x.remove();
    x.add(1);
    x.add(1);
    dueDivision(x, "|4");
  }

  static void pullTheOnlyWordOfALineBeforeOthers() {
    WhiteRivers x = lines(16, "1", "1", "*2 2", "3");
    due("pull(0)", x.pull(0), 3);
    dueDivision(x, "|2|2*|1");
    dueText("the words", words(x), "11223");
  }

  static void pullOneOfTwoWords() {
    WhiteRivers x = lines(16, "1", "1 1", "1");
    due("pull(0)", x.pull(0), 3);
    dueDivision(x, "|2|1|1");
  }

  // Promise 7: "behind the last line a new line begins with it"
  static void pushFromTheLastLine() {
    WhiteRivers x = lines(16, "8", "1 2");
    due("push(1)", x.push(1), 3);
    dueDivision(x, "|1|1|1");
    dueText("the words", words(x), "812");
  }

  static void pushFromTheOnlyLine() {
    WhiteRivers x = lines(16, "1 1 1");
    due("push(0)", x.push(0), 2);
    dueDivision(x, "|2|1");
  }

  static void pushFromAFullLastLine() {
    WhiteRivers x = lines(16, "8 7");
    due("push(0)", x.push(0), 2);
  }

  // "NOT_POSSIBLE if the line has only one word, one of both is frozen, or the next line would not fit"
  static void pushTheOnlyWordOfALine() {
    refused("push(0)", () -> lines(16, "1", "1 1"), x -> x.push(0), NOT_POSSIBLE);
  }

  static void pushTheOnlyWordOfTheLastLine() {
    refused("push(1)", () -> lines(16, "1 1", "1"), x -> x.push(1), NOT_POSSIBLE);
  }

  static void pushTheOnlyWord() {
    refused("push(0)", () -> lines(16, "1"), x -> x.push(0), NOT_POSSIBLE);
  }

  static void pushFromAFrozenLine() {
    refused("push(0)", () -> lines(16, "*1 1", "1 1"), x -> x.push(0), NOT_POSSIBLE);
  }

  static void pushFromAFrozenLastLine() {
    refused("push(1)", () -> lines(16, "1 1", "*1 1"), x -> x.push(1), NOT_POSSIBLE);
  }

  static void pushToAFrozenLine() {
    refused("push(0)", () -> lines(16, "1 1", "*1 1"), x -> x.push(0), NOT_POSSIBLE);
  }

  static void pushBetweenFrozenLines() {
    WhiteRivers x = lines(16, "*1", "1 1", "1", "*1");
    due("push(1)", x.push(1), 4);
    dueDivision(x, "|1*|1|2|1*");
  }

  static void pushBehindAFrozenLine() {
    WhiteRivers x = lines(16, "*1 1", "1 1");
    due("push(1)", x.push(1), 3);
    dueDivision(x, "|2*|1|1");
  }

  // Promise 8: "Returns 1 if it was frozen, otherwise 0"
  static void freezeALineThatIsNotFrozen() {
    WhiteRivers x = lines(16, "8", "8", "8");
    due("freeze(1, 1)", x.freeze(1, 1), 0);
    dueDivision(x, "|1|1*|1");
  }

  static void freezeAFrozenLine() {
    WhiteRivers x = lines(16, "8", "*8", "8");
    due("freeze(1, 1)", x.freeze(1, 1), 1);
    dueDivision(x, "|1|1*|1");
  }

  static void thawAFrozenLine() {
    WhiteRivers x = lines(16, "*8", "*8", "*8");
    due("freeze(1, 0)", x.freeze(1, 0), 1);
    dueDivision(x, "|1*|1|1*");
  }

  static void thawALineThatIsNotFrozen() {
    WhiteRivers x = lines(16, "*8", "8", "*8");
    due("freeze(1, 0)", x.freeze(1, 0), 0);
    dueDivision(x, "|1*|1|1*");
  }

  static void freezeTheFirstAndTheLastLine() {
    WhiteRivers x = lines(16, "8", "8", "8");
    due("freeze(0, 1)", x.freeze(0, 1), 0);
    due("freeze(2, 1)", x.freeze(2, 1), 0);
    dueDivision(x, "|1*|1|1*");
    due("count(8)", x.count(8), 2);
  }

  static void freezeALineBesideAFrozenOne() {
    WhiteRivers x = lines(16, "*8", "8");
    due("freeze(1, 1)", x.freeze(1, 1), 0);
    due("freeze(0, 0)", x.freeze(0, 0), 1);
    dueDivision(x, "|1|1*");
  }

  static void freezeAll24Lines() {
    WhiteRivers x = alike(16, 24, 8);
    for (int line = 0; line < 24; line++) x.freeze(line, 1);
    due("count(8)", x.count(8), 24);
  }

  static void aFrozenLineWhoseNumberBecomesLess() {
    WhiteRivers x = lines(16, "1", "1", "*2", "3");
    x.pull(0);
    dueDivision(x, "|2|1*|1");
    due("freeze(1, 1)", x.freeze(1, 1), 1);
    due("freeze(2, 1)", x.freeze(2, 1), 0);
  }

  // Promise 9: "NOT_POSSIBLE if a line is frozen"
  static void reflowWithTheFirstLineFrozen() {
    refused("reflow()", () -> lines(16, "*1", "1", "1"), x -> x.reflow(), NOT_POSSIBLE);
  }

  static void reflowWithTheLastLineFrozen() {
    refused("reflow()", () -> lines(16, "1", "1", "*1"), x -> x.reflow(), NOT_POSSIBLE);
  }

  static void reflowWithAThawedLine() {
    WhiteRivers x = lines(16, "1", "*1", "1");
    x.freeze(1, 0);
    due("reflow()", x.reflow(), 1);
  }

  // Promise 11: "0: its length; 1: its line; 2: its first column"
  static void theFirstAndTheLastWordOfALine() {
    WhiteRivers x = lines(16, "8", "3 2 1", "8");
    due("word(1, 0)", x.word(1, 0), 3);
    due("word(1, 1)", x.word(1, 1), 1);
    due("word(1, 2)", x.word(1, 2), 0);
    due("word(3, 0)", x.word(3, 0), 1);
    due("word(3, 1)", x.word(3, 1), 1);
    due("word(3, 2)", x.word(3, 2), 15);
  }

  static void theLastWordOfTheLastLine() {
    WhiteRivers x = lines(16, "8", "3 2");
    due("word(2, 0)", x.word(2, 0), 2);
    due("word(2, 1)", x.word(2, 1), 1);
    due("word(2, 2)", x.word(2, 2), 4);
  }

  // Promise 12: "0: its first word; 1: its words; ... 4: its gaps; 5: 1 if it is frozen, otherwise 0"
  static void theFirstWordsOfTheFirstAndTheLastLine() {
    WhiteRivers x = lines(16, "1 1", "1 1 1", "1");
    due("line(0, 0)", x.line(0, 0), 0);
    due("line(1, 0)", x.line(1, 0), 2);
    due("line(2, 0)", x.line(2, 0), 5);
  }

  static void theWordsAndGapsOfALineWithOneWord() {
    WhiteRivers x = lines(16, "1 1", "1");
    due("line(1, 1)", x.line(1, 1), 1);
    due("line(1, 4)", x.line(1, 4), 0);
    due("line(0, 1)", x.line(0, 1), 2);
    due("line(0, 4)", x.line(0, 4), 1);
  }

  static void theMarkOfAFrozenLineAndOfThoseBesideIt() {
    WhiteRivers x = lines(16, "1", "*1", "1");
    due("line(0, 5)", x.line(0, 5), 0);
    due("line(1, 5)", x.line(1, 5), 1);
    due("line(2, 5)", x.line(2, 5), 0);
  }
}
