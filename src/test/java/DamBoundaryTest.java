/** The boundary cases of 'Frozen lines, dams', and of the promises 17 to 20. */
public final class DamBoundaryTest extends Cases {
  public static void main(String[] args) {
    runAll(DamBoundaryTest.class);
  }

  /** The best division, and what plan tells of it: changed lines, lines, badness and longest river. */
  private static void dueBest(WhiteRivers x, int length, String division, int... told) {
    dueText("planned(" + length + ", ..)", planned(x, length), division);
    for (int what = 0; what <= 3; what++) due("plan(" + length + ", " + what + ")", x.plan(length, what), told[what]);
  }

  /** No division with a dam: not for this length. */
  private static void dueNone(WhiteRivers x, int length) {
    for (int what = 0; what <= 3; what++) due("plan(" + length + ", " + what + ")", x.plan(length, what), NOT_FOUND);
    due("planned(" + length + ", 0)", x.planned(length, 0), NOT_FOUND);
    due("dam(" + length + ")", x.dam(length), NOT_POSSIBLE);
  }

  /** Words that can be divided in no other way; the river goes through all lines. */
  private static WhiteRivers stiff(int lines) {
    return lines(16, "5 5,".repeat(lines).split(","));
  }

  // "The extra of each line that is neither the last one nor frozen is at most the slack"
  static void anExtraAsLargeAsTheSlack() {
    dueBest(slack(5, lines(16, "5 5", "8")), 24, "|2|1", 0, 2, 25, 1);
  }

  static void anExtraOfOneMoreThanTheSlack() {
    dueNone(slack(4, lines(16, "5 5", "8")), 24);
  }

  static void anExtraOf0WithTheSlack0() {
    dueBest(slack(0, lines(16, "8 7", "8")), 24, "|2|1", 0, 2, 0, 1);
  }

  static void anExtraOf1WithTheSlack0() {
    dueNone(slack(0, lines(16, "8 6", "8")), 24);
  }

  static void anExtraOf8WithTheSlack8() {
    dueBest(slack(8, lines(16, "8", "8")), 24, "|1|1", 0, 2, 64, 0);
    dueBest(slack(8, lines(16, "8", "*8 7")), 24, "|1|2", 0, 2, 64, 1);
  }

  static void anExtraOf9WithTheSlack8() {
    dueNone(slack(8, lines(16, "7", "*8 7")), 24);
    dueNone(slack(8, lines(17, "8", "*8 7")), 24);
  }

  static void anExtraOf6WithTheFirstSlack() {
    dueBest(lines(16, "5 4", "8"), 24, "|2|1", 0, 2, 36, 1);
  }

  static void anExtraOf7WithTheFirstSlack() {
    dueNone(lines(16, "4 4", "8"), 24);
  }

  static void theExtraOfTheLastLineIsNotBoundByTheSlack() {
    dueBest(slack(0, lines(16, "8 7", "1")), 24, "|2|1", 0, 2, 0, 1);
    dueBest(slack(0, lines(40, "1")), 24, "|1", 0, 1, 0, 0);
  }

  static void theExtraOfAFrozenLineIsNotBoundByTheSlack() {
    dueBest(slack(0, lines(16, "*1", "8")), 24, "|1|1", 0, 2, 225, 0);
  }

  static void theExtraOfAThawedLineIsBoundByTheSlack() {
    WhiteRivers x = slack(0, lines(16, "*1", "*8 7"));
    due("plan(24, 0)", x.plan(24, 0), 0);
    x.freeze(0, 0);
    dueNone(x, 24);
  }

  // "one of all words into lines that fit"
  static void aLineThatIsJustFull() {
    dueBest(slack(0, lines(16, "8", "7", "1")), 24, "|2|1", 1, 2, 0, 1);
  }

  static void aLineThatDoesNotFitByOneColumn() {
    dueNone(slack(7, lines(16, "8", "8", "1")), 24);
  }

  static void aLastLineThatIsJustFull() {
    dueBest(slack(0, lines(16, "8", "7")), 24, "|2", 1, 1, 0, 1);
  }

  static void aLastLineThatDoesNotFitByOneColumn() {
    dueNone(slack(7, lines(16, "8", "8")), 24);
  }

  static void allWordsAreInTheBestDivision() {
    WhiteRivers x = lines(16, "3 3 3", "1 1", "5 5");
    due("words", x.planned(24, 0) + x.planned(24, 1), 7);
    due("planned(24, 2)", x.planned(24, 2), NOT_FOUND);
  }

  // "in which each frozen line is a line as it is now"
  static void aFrozenFirstLine() {
    dueBest(lines(16, "*5", "5", "5"), 24, "|1|2", 1, 2, 121, 1);
  }

  static void aFrozenLineInTheMiddle() {
    dueBest(slack(8, lines(16, "5", "5", "*5", "5", "5")), 24, "|2|1|2", 2, 3, 25 + 121, 1);
  }

  static void aFrozenLastLine() {
    dueBest(lines(16, "5", "5", "*5"), 24, "|2|1", 1, 2, 25, 1);
  }

  static void aFrozenLastLineThatCanNotTakeAWord() {
    dueNone(slack(8, lines(16, "5", "*5")), 24);
    WhiteRivers thawed = slack(8, lines(16, "5", "5"));
    due("plan(24, 0) of a thawed line", thawed.plan(24, 0), 1);
  }

  static void aFrozenLineThatCanNotGiveAWord() {
    dueNone(slack(8, lines(16, "5", "*5 5", "5")), 24);
    WhiteRivers thawed = slack(8, lines(16, "5", "5 5", "5"));
    dueBest(thawed, 24, "|2|2", 2, 2, 25, 2);
  }

  static void aFrozenLineBesideAnotherOne() {
    dueBest(slack(0, lines(16, "*5", "*5", "5")), 24, "|1|1|1", 0, 3, 242, 0);
    dueBest(slack(0, lines(16, "*5 5", "*1", "1", "1")), 24, "|2|1|2", 1, 3, 25 + 225, 1);
  }

  static void allLinesFrozen() {
    dueBest(slack(0, lines(16, "*5 5", "*5", "*1 1")), 24, "|2|1|2", 0, 3, 25 + 121, 1);
  }

  // "and the longest river is at most d"
  static void aRiverAsLongAsTold() {
    dueBest(stiff(3), 3, "|2|2|2", 0, 3, 50, 3);
  }

  static void aRiverLongerThanToldByOne() {
    dueNone(stiff(3), 2);
  }

  static void aRiverOf1WithADamFor1() {
    dueBest(lines(16, "1 1"), 1, "|2", 0, 1, 0, 1);
  }

  static void aRiverOf2WithADamFor1() {
    dueNone(stiff(2), 1);
  }

  static void theLongestRiverThereCanBe() {
    dueBest(stiff(12), 12, "|2|2|2|2|2|2|2|2|2|2|2|2", 0, 12, 275, 12);
    due("plan(24, 3)", stiff(12).plan(24, 3), 12);
    due("plan(11, 3)", stiff(12).plan(11, 3), NOT_FOUND);
    due("dam(11)", stiff(12).dam(11), NOT_POSSIBLE);
    due("dam(12)", stiff(12).dam(12), 0);
  }

  static void aRiverThroughFrozenLines() {
    WhiteRivers x = lines(16, "*5 5", "*5 5");
    due("plan(2, 0)", x.plan(2, 0), 0);
    dueNone(x, 1);
  }

  static void aRiverThatIsShorterThanTold() {
    due("plan(24, 3)", stiff(3).plan(24, 3), 3);
    due("plan(4, 3)", stiff(3).plan(4, 3), 3);
  }

  // "A line of it is changed, if there is now no line with the same words."
  static void aLineWithTheSameWordsAndAnotherNumber() {
    dueBest(slack(2, lines(16, "4", "4 4", "8 7", "1")), 24, "|3|2|1", 1, 3, 4, 1);
  }

  static void aLineWithAsManyOtherWords() {
    dueBest(slack(5, lines(16, "5", "5 5", "5 5")), 24, "|2|2|1", 3, 3, 50, 2);
  }

  static void aLineWithWordsOfTwoLines() {
    dueBest(slack(3, lines(16, "8", "4 8", "3")), 24, "|2|2", 2, 2, 9, 2);
  }

  static void aLineWithThe24thWord() {
    WhiteRivers x = slack(2, lines(16, "*5 5", "4 4 4", "4 4 4", "4 4 4", "4 4 4", "4 4 4", "4 4 4", "4 4", "4 8"));
    dueBest(x, 24, "|2|3|3|3|3|3|3|3|1", 2, 9, 25 + 7 * 4, 8);
  }

  static void aLineThatIsTheLastOneOfFewerLines() {
    dueBest(slack(2, lines(16, "4", "4", "4", "8 7")), 24, "|3|2", 1, 2, 4, 1);
  }

  // "The best one is the one with the fewest changed lines"
  static void fewerChangedLinesRatherThanLessBadness() {
    dueBest(slack(7, lines(16, "4 4", "4 4 4")), 24, "|2|3", 0, 2, 49, 2);
  }

  static void fewerChangedLinesRatherThanMoreWords() {
    dueBest(slack(8, lines(16, "3 3", "3 3 3 3")), 24, "|4|2", 2, 2, 1, 2);
    dueBest(slack(8, lines(16, "3 3 3", "3 3 3")), 24, "|3|3", 0, 2, 25, 2);
  }

  static void fewerChangedLinesOnlyIfNoRiverIsTooLong() {
    WhiteRivers x = slack(8, lines(16, "8", "5 3", "3 8", "8"));
    dueBest(x, 2, "|1|2|2|1", 0, 4, 129, 2);
    dueBest(x, 1, "|2|3|1", 2, 3, 4, 1);
  }

  // "of several the one with the least sum of badness"
  static void lessBadnessRatherThanMoreWords() {
    dueBest(slack(8, lines(16, "1 1", "7 4", "6", "3", "7")), 24, "|3|3|1", 2, 3, 26, 2);
  }

  static void aLittleLessBadnessRatherThanMoreWords() {
    // The other one: |2|2|1|1 with a badness of 74.
    dueBest(slack(8, lines(16, "8", "6", "7", "5", "8", "8")), 24, "|1|2|2|1", 2, 4, 72, 2);
  }

  static void lessBadnessOnlyIfNoRiverIsTooLong() {
    WhiteRivers x = slack(8, lines(16, "5", "3 8", "2"));
    dueBest(x, 2, "|2|2", 2, 2, 49, 2);
    dueBest(x, 1, "|2|1|1", 2, 3, 113, 1);
  }

  // "then the one that has more words in the first line in which they differ"
  static void moreWordsInTheFirstLine() {
    dueBest(slack(8, lines(16, "8", "5", "8", "5")), 1, "|2|1|1", 1, 3, 68, 1);
  }

  static void moreWordsInALaterLine() {
    dueBest(slack(8, lines(16, "8 3", "8", "5", "8", "3")), 2, "|2|2|1|1", 1, 4, 84, 2);
  }

  static void moreWordsOnlyIfNoRiverIsTooLong() {
    dueBest(slack(8, lines(16, "8 3", "8", "5", "8", "3")), 1, "|2|1|2|1", 1, 4, 84, 1);
  }

  static void moreWordsRatherThanAShorterRiver() {
    WhiteRivers x = lines(16, "3", "6", "5", "3", "6", "7 5");
    dueBest(x, 3, "|3|2|2", 2, 3, 36, 3);
    dueBest(x, 2, "|2|3|2", 2, 3, 36, 2);
  }

  // "Without words there is one, without lines."
  static void theBestDivisionWithoutWords() {
    dueBest(new WhiteRivers(), 1, "", 0, 0, 0, 0);
    dueBest(new WhiteRivers(), 24, "", 0, 0, 0, 0);
    due("planned(1, 0)", new WhiteRivers().planned(1, 0), NOT_FOUND);
  }

  static void theBestDivisionWithoutWordsWithTheSlack0() {
    dueBest(slack(0, new WhiteRivers()), 1, "", 0, 0, 0, 0);
  }

  static void theBestDivisionAfterTheOnlyWordIsRemoved() {
    WhiteRivers x = lines(16, "8");
    due("plan(1, 1)", x.plan(1, 1), 1);
    x.remove();
    dueBest(x, 1, "", 0, 0, 0, 0);
  }

  static void damWithoutWords() {
    WhiteRivers x = new WhiteRivers();
    due("dam(1)", x.dam(1), 0);
    dueDivision(x, "");
  }

  static void leastRiverWithoutWords() {
    due("leastRiver()", new WhiteRivers().leastRiver(), 1);
    due("leastRiver()", slack(0, new WhiteRivers()).leastRiver(), 1);
  }

  static void theBestDivisionOfOneWord() {
    dueBest(lines(16, "8"), 1, "|1", 0, 1, 0, 0);
    dueBest(slack(0, lines(16, "*1")), 1, "|1", 0, 1, 0, 0);
  }

  // Promise 17: "Nothing changes."
  static void planChangesNothing() {
    WhiteRivers x = lines(16, "3 3 3", "*1 1", "5", "5");
    String before = state(x);
    due("plan(24, 0)", x.plan(24, 0), 1);
    dueText("the state", state(x), before);
  }

  // Promise 18: "NOT_FOUND if there is no such division, or it has not so many lines"
  static void plannedOfTheLastLineAndBehindIt() {
    WhiteRivers x = lines(16, "5 5", "5 5", "5");
    due("planned(24, 2)", x.planned(24, 2), 1);
    due("planned(24, 3)", x.planned(24, 3), NOT_FOUND);
  }

  static void plannedOfLinesThatThereAreNowButNotThen() {
    WhiteRivers x = lines(16, "1", "1", "1");
    due("planned(24, 0)", x.planned(24, 0), 3);
    due("planned(24, 1)", x.planned(24, 1), NOT_FOUND);
  }

  static void plannedOfTheMostLines() {
    WhiteRivers x = new WhiteRivers();
    x.setWidth(16);
    x.setSlack(8);
    for (int word = 0; word < 24; word++) x.add(8);
    due("planned(1, 23)", x.planned(1, 23), 1);
    due("planned(1, 24)", x.planned(1, 24), NOT_FOUND);
    due("plan(1, 1)", x.plan(1, 1), 24);
    due("plan(1, 2)", x.plan(1, 2), 23 * 64);
    due("plan(1, 3)", x.plan(1, 3), 0);
  }

  static void plannedOfTheMostWordsInALine() {
    WhiteRivers x = new WhiteRivers();
    x.setWidth(40);
    for (int word = 0; word < 20; word++) x.add(1);
    dueBest(x, 1, "|20", 0, 1, 0, 1);
    for (int word = 20; word < 24; word++) x.add(1);
    dueBest(x, 24, "|20|4", 0, 2, 1, 2);
  }

  // Promise 19: "Divides the words like this best division; frozen lines stay frozen."
  static void damWithoutFrozenLines() {
    WhiteRivers x = lines(16, "3 3 3", "1 1", "5 5");
    due("dam(1)", x.dam(1), 1);
    dueDivision(x, "|5|2");
  }

  static void damWithAFrozenLineWhoseNumberChanges() {
    WhiteRivers x = slack(2, lines(16, "4", "4 4", "*8 7", "1"));
    due("dam(24)", x.dam(24), 1);
    dueDivision(x, "|3|2*|1");
    due("count(8)", x.count(8), 1);
  }

  static void damWithAFrozenFirstLine() {
    WhiteRivers x = lines(16, "*5", "5", "5");
    due("dam(24)", x.dam(24), 1);
    dueDivision(x, "|1*|2");
  }

  static void damWithAFrozenLastLine() {
    WhiteRivers x = lines(16, "5", "5", "*5");
    due("dam(24)", x.dam(24), 1);
    dueDivision(x, "|2|1*");
  }

  static void damWithAllLinesFrozen() {
    WhiteRivers x = slack(0, lines(16, "*5", "*5", "*5"));
    due("dam(1)", x.dam(1), 0);
    dueDivision(x, "|1*|1*|1*");
  }

  static void aWordAddedWhereALineWasDammedAway() {
    WhiteRivers x = lines(16, "1", "1", "1");
    due("dam(24)", x.dam(24), 1);
    x.remove();
    x.add(1);
    x.add(1);
    dueDivision(x, "|4");
  }

  static void damThatChangesNoLine() {
    WhiteRivers x = stiff(3);
    due("dam(3)", x.dam(3), 0);
    dueDivision(x, "|2|2|2");
  }

  static void damTwice() {
    WhiteRivers x = slack(8, lines(16, "8", "5", "8", "5"));
    due("dam(1)", x.dam(1), 1);
    dueDivision(x, "|2|1|1");
    due("dam(1)", x.dam(1), 0);
    dueDivision(x, "|2|1|1");
  }

  // "NOT_POSSIBLE if there is no such division"
  static void damWithoutADivisionForTheSlack() {
    refused("dam(24)", () -> slack(4, lines(16, "5 5", "8")), x -> x.dam(24), NOT_POSSIBLE);
  }

  static void damWithoutADivisionForTheRiver() {
    refused("dam(2)", () -> stiff(3), x -> x.dam(2), NOT_POSSIBLE);
  }

  static void damWithoutADivisionForAFrozenLine() {
    refused("dam(24)", () -> slack(8, lines(16, "5", "*5")), x -> x.dam(24), NOT_POSSIBLE);
  }

  // Promise 20: "Returns the least length for which there is a division with a dam, 1 to 24"
  static void leastRiverWithoutGaps() {
    due("leastRiver()", lines(16, "8").leastRiver(), 1);
    due("leastRiver()", slack(8, lines(16, "8", "8", "8")).leastRiver(), 1);
  }

  static void leastRiverOfOneGap() {
    due("leastRiver()", lines(16, "5 5").leastRiver(), 1);
  }

  static void leastRiverOfTwoGapsBelowOneAnother() {
    due("leastRiver()", stiff(2).leastRiver(), 2);
  }

  static void leastRiverOfTheLongestRiverThereCanBe() {
    due("leastRiver()", stiff(12).leastRiver(), 12);
  }

  static void leastRiverIsThatOfADivisionAndNotThatOfNow() {
    WhiteRivers x = lines(16, "3 3 3", "1 1", "5 5");
    due("count(5)", x.count(5), 3);
    due("leastRiver()", x.leastRiver(), 1);
    due("count(5)", x.count(5), 3);
  }

  static void leastRiverBeyondThatOfNow() {
    // The extra of the first line of now is more than the slack.
    WhiteRivers x = slack(5, lines(16, "5", "5 5", "5"));
    due("count(5)", x.count(5), 1);
    due("leastRiver()", x.leastRiver(), 2);
  }

  // "NOT_FOUND if there is none"
  static void leastRiverWithoutADivisionForTheSlack() {
    refused("leastRiver()", () -> slack(4, lines(16, "5 5", "8")), x -> x.leastRiver(), NOT_FOUND);
    due("leastRiver()", slack(5, lines(16, "5 5", "8")).leastRiver(), 1);
  }

  static void leastRiverWithoutADivisionForAFrozenLine() {
    refused("leastRiver()", () -> slack(8, lines(16, "5", "*5")), x -> x.leastRiver(), NOT_FOUND);
  }

  static void leastRiverThroughFrozenLines() {
    due("leastRiver()", slack(0, lines(16, "*5 5", "*5 5", "*5 5")).leastRiver(), 3);
  }
}
