/** The boundary cases of 'Texts', and of the promises 21 to 24. */
public final class TextBoundaryTest extends Cases {
  public static void main(String[] args) {
    runAll(TextBoundaryTest.class);
  }

  /** A text with a fault can't be read, one without can. */
  private static void dueFault(String text, int want) {
    due("fault() of '" + text + "'", text(text).fault(), want);
    if (want != NOT_FOUND) {
      refused("read() of '" + text + "'", () -> typed(lines(16, "*8", "3 3"), text), x -> x.read(), NOT_POSSIBLE);
    } else {
      WhiteRivers x = text(text);
      int words = text.isEmpty() ? 0 : text.split(" ").length;
      due("read() of '" + text + "'", x.read(), words);
      due("count(0)", x.count(0), words);
    }
  }

  /** Words of eight characters: eleven of them and their blanks take 99. */
  private static WhiteRivers of99Characters() {
    return text("abcdefgh ".repeat(11));
  }

  // "There is a text of at most 100 characters, initially empty"
  static void aNewTextIsEmpty() {
    due("count(10)", new WhiteRivers().count(10), 0);
    due("clearText()", new WhiteRivers().clearText(), 0);
    due("type(97)", new WhiteRivers().type('a'), 1);
  }

  static void the100thCharacterIsTyped() {
    WhiteRivers x = of99Characters();
    due("type(97)", x.type('a'), 100);
    due("count(10)", x.count(10), 100);
  }

  static void the101stCharacterIsNotTyped() {
    refused("type(97)", () -> typed(of99Characters(), "a"), x -> x.type('a'), LIMIT_REACHED);
    refused("type(32)", () -> typed(of99Characters(), "a"), x -> x.type(' '), LIMIT_REACHED);
  }

  static void aTextOf100CharactersIsRead() {
    WhiteRivers x = typed(of99Characters(), "a");
    due("fault()", x.fault(), NOT_FOUND);
    due("read()", x.read(), 12);
    due("word(10, 0)", x.word(10, 0), 8);
    due("word(11, 0)", x.word(11, 0), 1);
  }

  static void theFaultOfThe100thCharacter() {
    due("fault() of a blank behind a blank", typed(of99Characters(), " ").fault(), 99);
    due("fault() of a blank at the end", text("a " + "abcdefgh ".repeat(10) + "abcdefg ").fault(), 99);
    due("fault() of a 9th character", text("a " + "abcdefgh ".repeat(9) + "abcdefg abcdefghi").fault(), 99);
    due("fault() of a 25th word", text("abcd ".repeat(3) + "abc ".repeat(21) + "a").fault(), 99);
  }

  static void aTextIsTypedAnewAfter100Characters() {
    WhiteRivers x = typed(of99Characters(), "a");
    due("clearText()", x.clearText(), 100);
    due("type(98)", x.type('b'), 1);
    due("read()", x.read(), 1);
    dueText("the words", words(x), "1");
  }

  // "character: 32 to 126"
  static void theFirstAndTheLastCharacter() {
    WhiteRivers x = new WhiteRivers();
    due("type(126)", x.type(126), 1);
    due("type(32)", x.type(32), 2);
    due("type(33)", x.type(33), 3);
    due("fault()", x.fault(), NOT_FOUND);
    due("read()", x.read(), 2);
  }

  static void theCharactersNextToTheirRange() {
    refused("type(31)", () -> text("a"), x -> x.type(31), INVALID_ARGUMENT);
    refused("type(127)", () -> text("a"), x -> x.type(127), INVALID_ARGUMENT);
  }

  // "each character that is not a blank belongs to a word"
  static void allCharactersButTheBlankBelongToWords() {
    for (int character = 33; character <= 126; character++) {
      WhiteRivers x = text("a");
      x.type(character);
      x.type('b');
      due("fault() with " + character, x.fault(), NOT_FOUND);
      due("read() with " + character, x.read(), 1);
      due("word(0, 0) with " + character, x.word(0, 0), 3);
    }
  }

  // "The fault of the text ...; NOT_FOUND if it has none (also if it is empty)"
  static void anEmptyTextHasNoFault() {
    dueFault("", NOT_FOUND);
  }

  static void aClearedTextHasNoFault() {
    WhiteRivers x = text(" a");
    due("fault()", x.fault(), 0);
    x.clearText();
    due("fault()", x.fault(), NOT_FOUND);
  }

  static void aTextOfOneCharacterHasNoFault() {
    dueFault("a", NOT_FOUND);
  }

  static void aTextWithOneBlankBetweenWordsHasNoFault() {
    dueFault("a b", NOT_FOUND);
    dueFault("abcdefgh abcdefgh", NOT_FOUND);
  }

  // "a blank at the beginning"
  static void aBlankAtTheBeginning() {
    dueFault(" a", 0);
    dueFault(" a b", 0);
  }

  static void aTextOfOneBlank() {
    dueFault(" ", 0);
  }

  static void twoBlanksAtTheBeginning() {
    dueFault("  a", 0);
    dueFault("  ", 0);
  }

  // "behind a blank"
  static void aBlankBehindABlankInTheMiddle() {
    dueFault("a  b", 2);
    dueFault("abc  d", 4);
  }

  static void aBlankBehindTwoBlanks() {
    dueFault("a   b", 2);
  }

  static void aBlankBehindABlankAtTheEnd() {
    dueFault("a  ", 2);
  }

  static void aBlankBehindABlankBehindSeveralWords() {
    dueFault("a b c  d", 6);
  }

  // "or at the end of the text"
  static void aBlankAtTheEnd() {
    dueFault("a ", 1);
    dueFault("a b ", 3);
    dueFault("abcdefgh ", 8);
  }

  static void aBlankThatIsAtTheEndNoMore() {
    WhiteRivers x = text("a ");
    due("fault()", x.fault(), 1);
    x.type('b');
    due("fault()", x.fault(), NOT_FOUND);
  }

  // "the 9th character of a word"
  static void aWordOf8Characters() {
    dueFault("abcdefgh", NOT_FOUND);
    dueFault("a abcdefgh b", NOT_FOUND);
  }

  static void aWordOf9Characters() {
    dueFault("abcdefghi", 8);
  }

  static void aWordOfMoreThan9Characters() {
    dueFault("abcdefghijklmnopqrstuvwxyz", 8);
  }

  static void aWordOf9CharactersInTheMiddle() {
    dueFault("ab abcdefghi cd", 11);
  }

  static void aWordOf9CharactersAtTheEnd() {
    dueFault("ab cd abcdefghi", 14);
  }

  static void twoWordsOfMoreThan8CharactersTogether() {
    dueFault("abcde abcde", NOT_FOUND);
  }

  // "or the first one of a 25th word"
  static void aTextOf24Words() {
    dueFault(shortWords(24), NOT_FOUND);
  }

  static void a25thWordOfOneCharacter() {
    dueFault(shortWords(25), 48);
  }

  static void a25thWordOfSeveralCharacters() {
    dueFault(shortWords(24) + " bcd", 48);
  }

  static void a26thWord() {
    dueFault(shortWords(26), 48);
  }

  static void aBlankBehindThe24thWord() {
    dueFault(shortWords(24) + " ", 47);
    dueFault(shortWords(24) + "  b", 48);
  }

  static void a24thWordOfSeveralCharacters() {
    dueFault(shortWords(24) + "bcdefgh", NOT_FOUND);
    dueFault(shortWords(24) + "bcdefghi", 54);
  }

  // "the position, from 0, of the first character that cannot stand where it stands"
  static void ofSeveralFaultsTheFirst() {
    dueFault(" abcdefghi", 0);
    dueFault("a  abcdefghi", 2);
    dueFault("abcdefghi  a", 8);
    dueFault("abcdefghi ", 8);
    dueFault("a  " + shortWords(25), 2);
    dueFault(shortWords(24) + " bcdefghijk ", 48);
    dueFault("abcdefghi " + shortWords(25), 8);
  }

  static void aFaultStaysWhenMoreIsTyped() {
    WhiteRivers x = text("a  ");
    typed(x, "b");
    due("fault()", x.fault(), 2);
  }

  // Promise 21: "Returns the length of the text"
  static void typeTellsTheLength() {
    WhiteRivers x = new WhiteRivers();
    due("type(97)", x.type('a'), 1);
    due("type(32)", x.type(' '), 2);
    due("type(32)", x.type(' '), 3);
  }

  // Promise 22: "Returns the length it had."
  static void clearTextTellsTheLengthBefore() {
    WhiteRivers x = text("ab ");
    due("clearText()", x.clearText(), 3);
    due("clearText()", x.clearText(), 0);
    due("count(10)", x.count(10), 0);
  }

  static void clearTextLeavesTheWords() {
    WhiteRivers x = typed(lines(16, "*8", "3 3"), "abc");
    x.read();
    x.clearText();
    dueText("the words", words(x), "3");
  }

  // Promise 24: "Takes the words of the text, which stays, instead of all words"
  static void readInsteadOfAllWords() {
    WhiteRivers x = typed(lines(16, "8 7", "6", "5"), "ab c");
    due("read()", x.read(), 2);
    dueText("the words", words(x), "21");
    dueDivision(x, "|2");
  }

  static void readMoreWordsThanThereAre() {
    WhiteRivers x = typed(lines(16, "8"), "ab c def");
    due("read()", x.read(), 3);
    dueText("the words", words(x), "213");
  }

  static void readTwice() {
    WhiteRivers x = text("ab c");
    due("read()", x.read(), 2);
    due("read()", x.read(), 2);
    dueText("the words", words(x), "21");
  }

  static void theTextStays() {
    WhiteRivers x = text("ab c");
    x.read();
    due("count(10)", x.count(10), 4);
    due("type(100)", x.type('d'), 5);
    x.read();
    dueText("the words", words(x), "22");
  }

  static void readAnEmptyText() {
    WhiteRivers x = lines(16, "8 7", "*6");
    due("read()", x.read(), 0);
    due("count(0)", x.count(0), 0);
    due("count(1)", x.count(1), 0);
    due("count(8)", x.count(8), 0);
    due("add(3)", x.add(3), 0);
    dueDivision(x, "|1");
  }

  static void readAnEmptyTextWithoutWords() {
    WhiteRivers x = new WhiteRivers();
    due("read()", x.read(), 0);
    due("count(9)", x.count(9), 1);
  }

  static void readOneWord() {
    WhiteRivers x = text("abcdefgh");
    due("read()", x.read(), 1);
    dueText("the words", words(x), "8");
    dueDivision(x, "|1");
  }

  static void read24Words() {
    WhiteRivers x = text(shortWords(24));
    due("read()", x.read(), 24);
    due("add(1)", x.add(1), LIMIT_REACHED);
    dueDivision(x, "|12|12");
  }

  static void readInsteadOf24Words() {
    WhiteRivers x = new WhiteRivers();
    for (int word = 0; word < 24; word++) x.add(1);
    typed(x, "ab c");
    due("read()", x.read(), 2);
    due("add(1)", x.add(1), 2);
  }

  static void readWordsOf1And8Characters() {
    WhiteRivers x = text("a bcdefghi");
    x.read();
    dueText("the words", words(x), "18");
  }

  // "and fills lines greedily"
  static void readALineThatIsJustFull() {
    WhiteRivers x = typed(lines(16, "1"), "abcdefgh abcdefg");
    x.read();
    dueDivision(x, "|2");
  }

  static void readALineThatDoesNotFitByOneColumn() {
    WhiteRivers x = typed(lines(16, "1"), "abcdefgh abcdefgh");
    x.read();
    dueDivision(x, "|1|1");
  }

  // "nothing is frozen then"
  static void readWithFrozenLines() {
    WhiteRivers x = typed(lines(16, "*8", "*7", "6"), "abcdefgh abcdefgh abcdefgh");
    due("read()", x.read(), 3);
    dueDivision(x, "|1|1|1");
    due("count(8)", x.count(8), 0);
  }

  static void aLineAddedAfterFrozenLinesAreReadAway() {
    WhiteRivers x = typed(lines(16, "8", "*7", "*6"), "a");
    x.read();
    x.add(8);
    x.add(8);
    x.add(8);
    dueDivision(x, "|2|1|1");
  }

  static void readLeavesTheWidthAndTheSlack() {
    WhiteRivers x = typed(slack(3, lines(17, "8")), "a");
    x.read();
    due("count(2)", x.count(2), 17);
    due("count(3)", x.count(3), 3);
  }

  // "NOT_POSSIBLE if the text has a fault"
  static void readATextWithAFaultAtItsBeginning() {
    refused("read()", () -> typed(lines(16, "*8"), " a b"), x -> x.read(), NOT_POSSIBLE);
  }

  static void readATextWithAFaultInItsMiddle() {
    refused("read()", () -> typed(lines(16, "*8"), "a  b"), x -> x.read(), NOT_POSSIBLE);
    refused("read()", () -> typed(lines(16, "*8"), "a abcdefghi b"), x -> x.read(), NOT_POSSIBLE);
  }

  static void readATextWithAFaultAtItsEnd() {
    refused("read()", () -> typed(lines(16, "*8"), "a b "), x -> x.read(), NOT_POSSIBLE);
    refused("read()", () -> typed(lines(16, "*8"), shortWords(25)), x -> x.read(), NOT_POSSIBLE);
  }
}
