/** The boundary cases of 'Rivers', and of the promises 10 and 14 to 16. */
public final class RiverBoundaryTest extends Cases {
  public static void main(String[] args) {
    runAll(RiverBoundaryTest.class);
  }

  /** Gaps at 3 to 6 and 10 to 12, at 1 to 14, and at 5. */
  private static WhiteRivers joined() {
    return lines(16, "3 3 3", "1 1", "5 5");
  }

  /** Twelve lines of two words, each with a gap that lies below the one before. */
  private static WhiteRivers longRiver() {
    return lines(16, "5 5,".repeat(12).split(","));
  }

  private static String river(WhiteRivers x) {
    StringBuilder s = new StringBuilder();
    for (int index = 0; index < 25 && x.river(index, 0) >= 0; index++) {
      s.append(' ').append(x.river(index, 0)).append('.').append(x.river(index, 1));
    }
    return s.toString().trim();
  }

  // "A gap lies below a gap of the line before, if there is a column that both have."
  // The gap above takes the columns 5 to 7, the one below it a single column.
  static void aGapThatEndsJustBeforeTheOneAbove() {
    due("gap(1, 0, 3)", lines(16, "5 8", "4 1").gap(1, 0, 3), 0);
    due("gap(0, 0, 4)", lines(16, "5 8", "4 1").gap(0, 0, 4), 0);
  }

  static void aGapInTheFirstColumnOfTheOneAbove() {
    due("gap(1, 0, 3)", lines(16, "5 8", "5 1").gap(1, 0, 3), 1);
    due("gap(0, 0, 4)", lines(16, "5 8", "5 1").gap(0, 0, 4), 1);
  }

  static void aGapInTheLastColumnOfTheOneAbove() {
    due("gap(1, 0, 3)", lines(16, "5 8", "7 1").gap(1, 0, 3), 1);
    due("gap(0, 0, 4)", lines(16, "5 8", "7 1").gap(0, 0, 4), 1);
  }

  static void aGapThatBeginsJustBehindTheOneAbove() {
    due("gap(1, 0, 3)", lines(16, "5 8", "8 1").gap(1, 0, 3), 0);
    due("gap(0, 0, 4)", lines(16, "5 8", "8 1").gap(0, 0, 4), 0);
  }

  static void aWideGapAroundTheOneAbove() {
    WhiteRivers x = lines(16, "8 7", "1 1", "8");
    due("gap(1, 0, 3)", x.gap(1, 0, 3), 1);
    due("gap(0, 0, 4)", x.gap(0, 0, 4), 1);
  }

  static void wideGapsThatShareOneColumn() {
    // Columns 2 to 7, and 7 to 9.
    due("gap(1, 0, 3)", lines(16, "2 8", "7 6", "8").gap(1, 0, 3), 1);
    // Columns 8 to 13, and 3 to 8.
    due("gap(1, 0, 3)", lines(16, "8 2", "3 7", "8").gap(1, 0, 3), 1);
  }

  static void wideGapsSideBySide() {
    // Columns 2 to 7, and 8 to 9.
    due("gap(1, 0, 3)", lines(16, "2 8", "8 6", "8").gap(1, 0, 3), 0);
    // Columns 8 to 13, and 3 to 7.
    due("gap(1, 0, 3)", lines(16, "8 2", "3 8", "8").gap(1, 0, 3), 0);
  }

  static void whatIsBehindTheLastWordIsNoGap() {
    WhiteRivers x = lines(16, "3", "5 5");
    due("gap(1, 0, 3)", x.gap(1, 0, 3), 0);
    due("gap(1, 0, 2)", x.gap(1, 0, 2), 1);
    due("count(6)", x.count(6), 1);
  }

  static void theGapsOfTheFirstAndTheLastLine() {
    WhiteRivers x = joined();
    due("gap(0, 0, 3)", x.gap(0, 0, 3), 0);
    due("gap(0, 1, 3)", x.gap(0, 1, 3), 0);
    due("gap(2, 0, 4)", x.gap(2, 0, 4), 0);
  }

  static void theGapsOfTheOnlyLine() {
    WhiteRivers x = lines(16, "1 1 1");
    for (int gap = 0; gap <= 1; gap++) {
      due("gap(0, " + gap + ", 2)", x.gap(0, gap, 2), 1);
      due("gap(0, " + gap + ", 3)", x.gap(0, gap, 3), 0);
      due("gap(0, " + gap + ", 4)", x.gap(0, gap, 4), 0);
    }
  }

  static void aGapBelowSeveral() {
    due("gap(1, 0, 3) of two", joined().gap(1, 0, 3), 2);
    due("gap(1, 0, 3) of three", lines(16, "3 3 3 3", "1 1", "8").gap(1, 0, 3), 3);
  }

  static void aGapAboveSeveral() {
    due("gap(0, 0, 4) of two", lines(16, "1 1", "3 3 3", "8").gap(0, 0, 4), 2);
    due("gap(0, 0, 4) of three", lines(16, "1 1", "3 3 3 3", "8").gap(0, 0, 4), 3);
  }

  // "a gap at least 1"
  static void theNarrowestAndTheWidestGap() {
    due("gap(0, 0, 1) of a full line", lines(16, "8 7", "8").gap(0, 0, 1), 1);
    due("gap(0, 0, 1) of the last line", lines(16, "1 1").gap(0, 0, 1), 1);
    due("gap(0, 0, 1) of two short words", lines(40, "1 1", "8").gap(0, 0, 1), 38);
  }

  static void theFirstColumnsOfTheFirstAndTheLastGap() {
    WhiteRivers x = lines(16, "3 3 3 2", "8");
    due("gap(0, 0, 0)", x.gap(0, 0, 0), 3);
    due("gap(0, 1, 0)", x.gap(0, 1, 0), 8);
    due("gap(0, 2, 0)", x.gap(0, 2, 0), 13);
    due("gap(0, 2, 1)", x.gap(0, 2, 1), 1);
  }

  // "A river is a sequence of gaps of lines one after the other, each of which lies below the one before"
  static void aLineWithoutGapsEndsARiver() {
    WhiteRivers x = lines(16, "5 5", "8", "5 5");
    due("count(5)", x.count(5), 1);
    due("gap(2, 0, 2)", x.gap(2, 0, 2), 1);
    due("gap(2, 0, 3)", x.gap(2, 0, 3), 0);
    due("gap(0, 0, 4)", x.gap(0, 0, 4), 0);
  }

  static void aLineWhoseGapLiesElsewhereEndsARiver() {
    // Columns 2 to 7, 8, and 5.
    WhiteRivers x = lines(16, "2 8", "8 7", "5 5");
    due("count(5)", x.count(5), 1);
    due("gap(2, 0, 2)", x.gap(2, 0, 2), 1);
  }

  static void aRiverThatBeginsInALaterLine() {
    WhiteRivers x = lines(16, "8", "5 5", "5 5");
    due("count(5)", x.count(5), 2);
    due("gap(1, 0, 2)", x.gap(1, 0, 2), 1);
    due("gap(2, 0, 2)", x.gap(2, 0, 2), 2);
  }

  // "its length is the number of its gaps"
  static void aRiverOfOneGap() {
    WhiteRivers x = lines(16, "1 1");
    due("count(5)", x.count(5), 1);
    dueText("the river", river(x), "0.0");
  }

  static void aRiverOfTwoGaps() {
    due("count(5)", lines(16, "5 5", "5 5").count(5), 2);
  }

  static void theLongestRiverThereCanBe() {
    WhiteRivers x = longRiver();
    due("count(5)", x.count(5), 12);
    due("gap(11, 0, 2)", x.gap(11, 0, 2), 12);
    due("line(11, 6)", x.line(11, 6), 12);
    due("river(11, 0)", x.river(11, 0), 0);
    due("river(12, 0)", x.river(12, 0), NOT_FOUND);
  }

  // "The reach of a gap is the length of the longest river that ends with it."
  static void theReachBelowGapsOfDifferentReaches() {
    // Columns 8 to 14; 3 to 6 and 10 to 12, of which only the latter lies below; 1 to 14.
    WhiteRivers x = lines(16, "8 1", "3 3 3", "1 1", "8");
    due("gap(1, 0, 2)", x.gap(1, 0, 2), 1);
    due("gap(1, 1, 2)", x.gap(1, 1, 2), 2);
    due("gap(2, 0, 2)", x.gap(2, 0, 2), 3);
  }

  static void theReachWhereTheFirstGapAboveHasTheGreaterOne() {
    // Columns 1 to 7; 3 to 6 and 10 to 12, of which only the former lies below; 1 to 14.
    WhiteRivers x = lines(16, "1 8", "3 3 3", "1 1", "8");
    due("gap(1, 0, 2)", x.gap(1, 0, 2), 2);
    due("gap(1, 1, 2)", x.gap(1, 1, 2), 1);
    due("gap(2, 0, 2)", x.gap(2, 0, 2), 3);
  }

  // "The longest river has the greatest reach of all gaps (0 if there are no gaps)."
  static void theLongestRiverWithoutWords() {
    due("count(5)", new WhiteRivers().count(5), 0);
    due("river(0, 0)", new WhiteRivers().river(0, 0), NOT_FOUND);
    due("river(0, 1)", new WhiteRivers().river(0, 1), NOT_FOUND);
  }

  static void theLongestRiverWithoutGaps() {
    due("count(5)", lines(16, "8", "8", "8").count(5), 0);
    due("river(0, 0)", lines(16, "8", "8", "8").river(0, 0), NOT_FOUND);
    due("river(0, 1)", lines(16, "8", "8", "8").river(0, 1), NOT_FOUND);
  }

  static void theLongestRiverThatDoesNotEndInTheLastLine() {
    WhiteRivers x = lines(16, "5 5", "5 5", "8", "1 1");
    due("count(5)", x.count(5), 2);
    dueText("the river", river(x), "1.0 0.0");
  }

  // "A gap is a joint if it lies below at least two gaps."
  static void aGapBelowOneGapIsNoJoint() {
    due("count(7)", lines(16, "8 1", "1 1", "8").count(7), 0);
  }

  static void aGapBelowTwoGapsIsAJoint() {
    due("count(7)", joined().count(7), 1);
  }

  static void aGapBelowThreeGapsIsOneJoint() {
    due("count(7)", lines(16, "3 3 3 3", "1 1", "8").count(7), 1);
  }

  static void aGapAboveTwoGapsIsNoJoint() {
    due("count(7)", lines(16, "1 1", "3 3 3", "8").count(7), 0);
  }

  static void twoJointsInOneLine() {
    // Columns 1 to 4, 6 to 8, 10 to 12, 14 to 16, above 2 to 7 and 11 to 15.
    WhiteRivers x = lines(18, "1 1 1 1 1", "2 3 2", "8");
    due("count(7)", x.count(7), 2);
  }

  static void jointsInTwoLines() {
    WhiteRivers x = lines(16, "3 3 3", "1 1", "3 3 3", "1 1", "8");
    due("count(7)", x.count(7), 2);
  }

  static void jointsWithoutWordsAndWithoutGaps() {
    due("count(7)", new WhiteRivers().count(7), 0);
    due("count(7)", lines(16, "8", "8").count(7), 0);
    due("count(7)", lines(16, "1 1 1").count(7), 0);
  }

  // Promise 10: "6: gaps"
  static void gapsOfLinesWithOneWord() {
    due("count(6)", lines(16, "8", "8").count(6), 0);
    due("count(6)", lines(16, "1 1", "8").count(6), 1);
  }

  // Promise 10: "11: gaps whose reach is the greatest one, 0 without gaps"
  static void gapsOfTheGreatestReachWithoutGaps() {
    due("count(11)", new WhiteRivers().count(11), 0);
    due("count(11)", lines(16, "8", "8").count(11), 0);
  }

  static void gapsOfTheGreatestReach1() {
    due("count(11)", lines(16, "1 1").count(11), 1);
    due("count(11)", lines(16, "1 1 1").count(11), 2);
    due("count(11)", lines(16, "5 5", "8", "1 1 1").count(11), 3);
  }

  static void oneGapOfTheGreatestReach() {
    due("count(11)", joined().count(11), 1);
  }

  static void gapsOfTheGreatestReachInTwoLines() {
    due("count(11)", lines(16, "5 5", "5 5", "8", "5 5", "5 5").count(11), 2);
  }

  static void twoGapsOfTheGreatestReachInOneLine() {
    due("count(11)", lines(16, "1 1", "3 3 3", "8").count(11), 2);
  }

  // Promise 12: "6: the greatest reach of its gaps, 0 if there is none"
  static void theGreatestReachOfALineWithoutGaps() {
    due("line(0, 6)", lines(16, "8", "1 1").line(0, 6), 0);
    due("line(1, 6)", lines(16, "5 5", "8").line(1, 6), 0);
  }

  static void theGreatestReachOfALineWhoseFirstGapHasIt() {
    due("line(1, 6)", lines(16, "1 8", "3 3 3", "8").line(1, 6), 2);
  }

  static void theGreatestReachOfALineWhoseLastGapHasIt() {
    due("line(1, 6)", lines(16, "8 1", "3 3 3", "8").line(1, 6), 2);
  }

  static void theGreatestReachOfALineThatIsNotTheLongestRiver() {
    WhiteRivers x = joined();
    due("line(0, 6)", x.line(0, 6), 1);
    due("line(1, 6)", x.line(1, 6), 2);
    due("line(2, 6)", x.line(2, 6), 3);
  }

  // Promise 15: "index: 0 for the last gap, and so on"; "NOT_FOUND if the river is not so long"
  static void theLastAndTheFirstGapOfTheRiver() {
    WhiteRivers x = joined();
    due("river(0, 0)", x.river(0, 0), 2);
    due("river(2, 0)", x.river(2, 0), 0);
    due("river(3, 0)", x.river(3, 0), NOT_FOUND);
    due("river(3, 1)", x.river(3, 1), NOT_FOUND);
  }

  // "of several the one whose last gap comes first by lines, then by gaps"
  static void ofTwoRiversTheOneThatEndsInTheEarlierLine() {
    dueText("the river", river(lines(16, "5 5", "5 5", "8", "5 5", "5 5")), "1.0 0.0");
  }

  static void ofTwoRiversTheLongerOneInALaterLine() {
    dueText("the river", river(lines(16, "5 5", "8", "5 5", "5 5")), "3.0 2.0");
  }

  static void ofTwoRiversInOneLineTheOneWithTheFirstGap() {
    dueText("the river", river(lines(16, "1 1", "3 3 3", "8")), "1.0 0.0");
    dueText("the river of one gap", river(lines(16, "1 1 1")), "0.0");
  }

  static void ofTwoGapsInOneLineTheLaterOneWithTheGreaterReach() {
    dueText("the river", river(lines(16, "8 1", "3 3 3", "8")), "1.1 0.0");
  }

  // "going up, always the first gap of the line before below which it lies, and whose reach is 1 less"
  static void goingUpTheFirstOfTwoGaps() {
    dueText("the river", river(joined()), "2.0 1.0 0.0");
  }

  static void goingUpNotTheFirstGapIfItsReachIsLess() {
    dueText("the river", river(lines(16, "8 1", "3 3 3", "1 1", "8")), "2.0 1.1 0.0");
  }

  static void goingUpTheFirstOfTwoGapsBehindOneWithALesserReach() {
    // Columns 8 to 14; 3 to 4, 8 and 12, of which the latter two lie below; 1 to 14.
    dueText("the river", river(lines(16, "8 1", "3 3 3 3", "1 1", "8")), "2.0 1.1 0.0");
  }

  static void goingUpNoMoreThanOneLine() {
    // The gap of the first line has the columns 8, those of the second one 5 and 14: none below it.
    dueText("the river", river(lines(16, "8 7", "5 8 1", "1 1", "8")), "2.0 1.0");
  }

  static void goingUpNotTheFirstGapIfItLiesElsewhere() {
    // Columns 3 to 6 and 10 to 12; 8 to 14; the gap at 3 has the same reach, but lies elsewhere.
    dueText("the river", river(lines(16, "3 3 3", "8 1", "8")), "1.0 0.1");
  }

  // Promise 16: "NOT_FOUND if there is none (a gap, or behind the last word)"
  static void theColumnsOfWordsAndGaps() {
    WhiteRivers x = joined();
    dueText("line 0", drawn(x, 0), "aaa....bbb...ccc");
    dueText("line 1", drawn(x, 1), "d..............e");
    dueText("line 2", drawn(x, 2), "fffff.ggggg.....");
  }

  static void theColumnBehindTheLastWord() {
    WhiteRivers x = joined();
    due("at(2, 10)", x.at(2, 10), 6);
    due("at(2, 11)", x.at(2, 11), NOT_FOUND);
    due("at(2, 15)", x.at(2, 15), NOT_FOUND);
  }

  static void theColumnsOfALineWithOneWord() {
    WhiteRivers x = lines(16, "8", "8");
    due("at(0, 0)", x.at(0, 0), 0);
    due("at(0, 7)", x.at(0, 7), 0);
    due("at(0, 8)", x.at(0, 8), NOT_FOUND);
    due("at(0, 15)", x.at(0, 15), NOT_FOUND);
  }

  static void theColumnsOfAFullLine() {
    dueText("line 0", drawn(lines(16, "8 7", "8"), 0), "aaaaaaaa.bbbbbbb");
    dueText("line 1", drawn(lines(16, "8", "8 7"), 1), "bbbbbbbb.ccccccc");
  }

  static void theColumnsOfOtherLinesAreNotThoseOfALine() {
    WhiteRivers x = lines(16, "1", "8");
    due("at(0, 5)", x.at(0, 5), NOT_FOUND);
    due("at(1, 5)", x.at(1, 5), 1);
  }
}
