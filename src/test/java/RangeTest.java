/** Each argument of each call: the first and the last value of its range, and those next to them. */
public final class RangeTest extends Cases {
  public static void main(String[] args) {
    runAll(RangeTest.class);
  }

  /** Seven words in three lines. */
  private static WhiteRivers three() {
    return lines(16, "3 3 3", "1 1", "5 5");
  }

  // Promise 2: "width: 16 to 40"
  static void setWidthWidth16To40() {
    range("setWidth(width)", RangeTest::three, (x, n) -> x.setWidth(n), 16, 2, 40, 1);
  }

  // Promise 3: "slack: 0 to 8"
  static void setSlackSlack0To8() {
    range("setSlack(slack)", RangeTest::three, (x, n) -> x.setSlack(n), 0, 6, 8, 6);
  }

  // Promise 4: "length: 1 to 8"
  static void addLength1To8() {
    range("add(length)", RangeTest::three, (x, n) -> x.add(n), 1, 7, 8, 7);
  }

  // Promise 6: "line: number of the line"
  static void pullLineFirstToLast() {
    range("pull(line)", RangeTest::three, (x, n) -> x.pull(n), 0, 3, 2, NOT_POSSIBLE);
  }

  // Promise 7: "line: number of the line"
  static void pushLineFirstToLast() {
    range("push(line)", RangeTest::three, (x, n) -> x.push(n), 0, 3, 2, 4);
  }

  // Promise 8: "line: number of the line"
  static void freezeLineFirstToLast() {
    range("freeze(line, 1)", RangeTest::three, (x, n) -> x.freeze(n, 1), 0, 0, 2, 0);
    range("freeze(line, 0)", RangeTest::three, (x, n) -> x.freeze(n, 0), 0, 0, 2, 0);
  }

  // Promise 8: "frozen: 1 or 0"
  static void freezeFrozen0To1() {
    range("freeze(0, frozen)", RangeTest::three, (x, n) -> x.freeze(0, n), 0, 0, 1, 0);
    range("freeze(0, frozen) of a frozen line", () -> lines(16, "*5 5", "5"), (x, n) -> x.freeze(0, n),
        0, 1, 1, 1);
  }

  // Promise 10: "what: 0: words; ... 11: gaps whose reach is the greatest one"
  static void countWhat0To11() {
    range("count(what)", RangeTest::three, (x, n) -> x.count(n), 0, 7, 11, 1);
  }

  // Promise 11: "word: number of the word"
  static void wordWordFirstToLast() {
    range("word(word, 0)", RangeTest::three, (x, n) -> x.word(n, 0), 0, 3, 6, 5);
    range("word(word, 1)", RangeTest::three, (x, n) -> x.word(n, 1), 0, 0, 6, 2);
    range("word(word, 2)", RangeTest::three, (x, n) -> x.word(n, 2), 0, 0, 6, 6);
  }

  // Promise 11: "what: 0: its length; 1: its line; 2: its first column"
  static void wordWhat0To2() {
    range("word(6, what)", RangeTest::three, (x, n) -> x.word(6, n), 0, 5, 2, 6);
  }

  // Promise 12: "line: number of the line"
  static void lineLineFirstToLast() {
    range("line(line, 1)", RangeTest::three, (x, n) -> x.line(n, 1), 0, 3, 2, 2);
    range("line(line, 6)", RangeTest::three, (x, n) -> x.line(n, 6), 0, 1, 2, 3);
  }

  // Promise 12: "what: 0: its first word; ... 6: the greatest reach of its gaps"
  static void lineWhat0To6() {
    range("line(2, what)", RangeTest::three, (x, n) -> x.line(2, n), 0, 5, 6, 3);
  }

  // Promise 14: "line: number of the line"
  static void gapLineFirstToLast() {
    range("gap(line, 0, 0)", RangeTest::three, (x, n) -> x.gap(n, 0, 0), 0, 3, 2, 5);
    range("gap(line, 0, 3)", RangeTest::three, (x, n) -> x.gap(n, 0, 3), 0, 0, 2, 1);
  }

  // Promise 14: "gap: number of the gap"; "The gaps of a line are numbered from 0."
  static void gapGapFirstToLast() {
    range("gap(0, gap, 0)", RangeTest::three, (x, n) -> x.gap(0, n, 0), 0, 3, 1, 10);
    range("gap(1, gap, 0)", RangeTest::three, (x, n) -> x.gap(1, n, 0), 0, 1, 0, 1);
    range("gap(2, gap, 4)", RangeTest::three, (x, n) -> x.gap(2, n, 4), 0, 0, 0, 0);
  }

  // Promise 14: "what: 0: its first column; ... 4: how many gaps lie below it"
  static void gapWhat0To4() {
    range("gap(1, 0, what)", RangeTest::three, (x, n) -> x.gap(1, 0, n), 0, 1, 4, 1);
  }

  // Promise 15: "INVALID_ARGUMENT if index is negative"
  static void riverIndexFrom0() {
    range("river(index, 0)", RangeTest::three, (x, n) -> x.river(n, 0), 0, 2,
        Integer.MAX_VALUE, NOT_FOUND);
  }

  // Promise 15: "what: 0: its line; 1: its number"
  static void riverWhat0To1() {
    range("river(0, what)", RangeTest::three, (x, n) -> x.river(0, n), 0, 2, 1, 0);
  }

  // Promise 16: "line: number of the line"
  static void atLineFirstToLast() {
    range("at(line, 0)", RangeTest::three, (x, n) -> x.at(n, 0), 0, 0, 2, 5);
  }

  // Promise 16: "column: 0 to W - 1"
  static void atColumn0ToTheWidthLess1() {
    range("at(0, column)", RangeTest::three, (x, n) -> x.at(0, n), 0, 0, 15, 2);
    range("at(0, column) of 24 columns", () -> lines(24, "1 1", "1"), (x, n) -> x.at(0, n), 0, 0, 23, 1);
    range("at(0, column) of 40 columns", () -> lines(40, "1 1", "1"), (x, n) -> x.at(0, n), 0, 0, 39, 1);
    range("at(1, column) behind the last word", RangeTest::three, (x, n) -> x.at(2, n), 0, 5,
        15, NOT_FOUND);
  }

  // Promise 17: "length: 1 to 24"
  static void planLength1To24() {
    range("plan(length, 0)", RangeTest::three, (x, n) -> x.plan(n, 0), 1, 1, 24, 1);
    range("plan(length, 3) without words", WhiteRivers::new, (x, n) -> x.plan(n, 3), 1, 0, 24, 0);
  }

  // Promise 17: "what: 0: its changed lines; ... 3: its longest river"
  static void planWhat0To3() {
    range("plan(1, what)", RangeTest::three, (x, n) -> x.plan(1, n), 0, 1, 3, 1);
  }

  // Promise 18: "length: 1 to 24"
  static void plannedLength1To24() {
    range("planned(length, 0)", RangeTest::three, (x, n) -> x.planned(n, 0), 1, 5, 24, 5);
  }

  // Promise 18: "line: 0 or more"
  static void plannedLineFrom0() {
    range("planned(1, line)", RangeTest::three, (x, n) -> x.planned(1, n), 0, 5,
        Integer.MAX_VALUE, NOT_FOUND);
  }

  // Promise 19: "length: 1 to 24"
  static void damLength1To24() {
    range("dam(length)", RangeTest::three, (x, n) -> x.dam(n), 1, 1, 24, 1);
  }

  // Promise 21: "character: 32 to 126"
  static void typeCharacter32To126() {
    range("type(character)", () -> text("ab"), (x, n) -> x.type(n), 32, 3, 126, 3);
  }

  // "If there is no word, line or gap with a certain number, this is INVALID_ARGUMENT."
  static void pullLine0WithoutLines() {
    refused("pull(0)", WhiteRivers::new, x -> x.pull(0), INVALID_ARGUMENT);
  }

  static void pushLine0WithoutLines() {
    refused("push(0)", WhiteRivers::new, x -> x.push(0), INVALID_ARGUMENT);
  }

  static void freezeLine0WithoutLines() {
    refused("freeze(0, 1)", WhiteRivers::new, x -> x.freeze(0, 1), INVALID_ARGUMENT);
    refused("freeze(0, 0)", WhiteRivers::new, x -> x.freeze(0, 0), INVALID_ARGUMENT);
  }

  static void wordWord0WithoutWords() {
    for (int what = 0; what <= 2; what++) due("word(0, " + what + ")", new WhiteRivers().word(0, what), INVALID_ARGUMENT);
  }

  static void lineLine0WithoutLines() {
    for (int what = 0; what <= 6; what++) due("line(0, " + what + ")", new WhiteRivers().line(0, what), INVALID_ARGUMENT);
  }

  static void gapGap0WithoutLines() {
    for (int what = 0; what <= 4; what++) due("gap(0, 0, " + what + ")", new WhiteRivers().gap(0, 0, what), INVALID_ARGUMENT);
  }

  static void gapGap0OfALineWithoutGaps() {
    for (int what = 0; what <= 4; what++) {
      due("gap(0, 0, " + what + ")", lines(16, "8", "8 1").gap(0, 0, what), INVALID_ARGUMENT);
    }
  }

  static void atColumn0WithoutLines() {
    due("at(0, 0)", new WhiteRivers().at(0, 0), INVALID_ARGUMENT);
  }

  // "words, numbered from 0": the line that a removed word had goes, and its numbers with it.
  static void numbersOfARemovedWordAndItsLine() {
    WhiteRivers x = lines(16, "8", "8");
    x.remove();
    due("word(1, 0)", x.word(1, 0), INVALID_ARGUMENT);
    due("word(1, 2)", x.word(1, 2), INVALID_ARGUMENT);
    due("line(1, 1)", x.line(1, 1), INVALID_ARGUMENT);
    due("at(1, 0)", x.at(1, 0), INVALID_ARGUMENT);
    due("freeze(1, 1)", x.freeze(1, 1), INVALID_ARGUMENT);
    due("pull(1)", x.pull(1), INVALID_ARGUMENT);
    due("push(1)", x.push(1), INVALID_ARGUMENT);
  }

  static void numbersOfTheLast24thWordAndLine() {
    WhiteRivers x = new WhiteRivers();
    x.setWidth(16);
    for (int word = 0; word < 24; word++) x.add(8);
    due("word(23, 1)", x.word(23, 1), 23);
    due("word(24, 1)", x.word(24, 1), INVALID_ARGUMENT);
    due("line(23, 0)", x.line(23, 0), 23);
    due("line(24, 0)", x.line(24, 0), INVALID_ARGUMENT);
    due("at(23, 7)", x.at(23, 7), 23);
    due("at(24, 7)", x.at(24, 7), INVALID_ARGUMENT);
    due("freeze(23, 1)", x.freeze(23, 1), 0);
    due("freeze(24, 1)", x.freeze(24, 1), INVALID_ARGUMENT);
    due("pull(24)", x.pull(24), INVALID_ARGUMENT);
    due("push(24)", x.push(24), INVALID_ARGUMENT);
  }

  static void numbersOfTheLastGapOfALongLine() {
    WhiteRivers x = new WhiteRivers();
    x.setWidth(40);
    for (int word = 0; word < 21; word++) x.add(1);
    due("gap(0, 18, 0)", x.gap(0, 18, 0), 38);
    due("gap(0, 19, 0)", x.gap(0, 19, 0), INVALID_ARGUMENT);
  }

  // Several arguments out of their ranges are no other error.
  static void allArgumentsOutOfTheirRanges() {
    refused("freeze(3, 2)", RangeTest::three, x -> x.freeze(3, 2), INVALID_ARGUMENT);
    refused("word(7, 3)", RangeTest::three, x -> x.word(7, 3), INVALID_ARGUMENT);
    refused("line(3, 7)", RangeTest::three, x -> x.line(3, 7), INVALID_ARGUMENT);
    refused("gap(3, 9, 5)", RangeTest::three, x -> x.gap(3, 9, 5), INVALID_ARGUMENT);
    refused("river(-1, 2)", RangeTest::three, x -> x.river(-1, 2), INVALID_ARGUMENT);
    refused("at(3, 16)", RangeTest::three, x -> x.at(3, 16), INVALID_ARGUMENT);
    refused("plan(0, 4)", RangeTest::three, x -> x.plan(0, 4), INVALID_ARGUMENT);
    refused("planned(25, -1)", RangeTest::three, x -> x.planned(25, -1), INVALID_ARGUMENT);
  }
}
