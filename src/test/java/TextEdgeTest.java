/** Part I of the document and the promises feed, read and fault, each sentence at its boundary and beyond. */
public final class TextEdgeTest {
  private static final String CROSSING = " +[1, 1, 2, 2]";

  public static void main(String[] args) {
    linesEndWithATenOrTheText();
    whatStandsFromTheRemarkOnDoesNotCount();
    spacesEndWordsAndNumbers();
    wordsGoOnAsLongAsLettersDo();
    numbersGoOnAsLongAsDigitsDo();
    linesWithoutTokensAreNone();
    eachKindHasItsWord();
    oncesAndNotsAndAnyNumbers();
    numbersOfALine();
    atMostTwentyCrossings();
    atMostThirtyTwoLetters();
    atMostSixtyFourTerms();
    atMostSixtyFourLines();
    strayBytes();
    wrongNumbers();
    noWordOfALine();
    somethingElseHasToBe();
    theFirstFaultByItsPlace();
    ofSeveralFaultsTheFirst();
    printedTerms();
    printedCircles();
    feedUpToTheLastByte();
    feedIsUnsigned();
    readCountsBytes();
    readOfAFault();
    readOfAFullTape();
    faultOfTheLatestRead();
    Checks.end();
  }

  private static Session fresh(String name) { return new Session(name); }

  /** A text without a fault, with so many lines. */
  private static void good(String text, int lines) {
    Session x = fresh("good <" + text + ">");
    x.due("read", x.text(text), lines);
    x.due("lines", x.state(0), lines);
    x.due("fault", x.fault(0), 0);
    x.due("place", x.fault(1), -1);
  }

  private static void bad(String text, int code, int place) {
    Session x = fresh("bad <" + text + ">");
    x.due("read", x.text(text), -1);
    x.due("lines", x.state(0), 0);
    x.due("kind", x.state(1), 0);
    x.due("fault", x.fault(0), code);
    x.due("place", x.fault(1), place);
    x.due("run", x.run(16), 0);
  }

  /** What one line that is done prints, behind others that answer # ok. */
  private static void prints(String text, String want) {
    Session x = fresh("prints <" + text + ">");
    String s = x.says(text);
    while (s.startsWith("# ok\n")) s = s.substring(5);
    x.due("line", s, want);
  }

  /** "Its LINES end with a 10, or with the text." */
  private static void linesEndWithATenOrTheText() {
    good("", 0);
    good("\n", 0);
    good("show", 1);
    good("show\n", 1);
    good("show\ncount", 2);
    good("show\ncount\n", 2);
    bad("un\ndo 1", 3, 0);
    bad("undo\n1", 4, 4);
  }

  /** "Of a line, what stands from a # on does not count" */
  private static void whatStandsFromTheRemarkOnDoesNotCount() {
    good("#", 0);
    good("#show", 0);
    good("show#", 1);
    good("show#show", 1);
    good("show # 00 10000 ] ## show", 1);
    good("#\nshow", 1);
    bad("#\nshows", 3, 2);
    bad("undo #1", 4, 7);
    Session x = fresh("remark behind a number");
    x.due("read", x.text("code o 1#2"), 1);
    x.due("run", x.run(1), 1);
    x.due("circles", x.state(3), 1);
  }

  /** "nor do spaces (32) but that they end words and numbers" */
  private static void spacesEndWordsAndNumbers() {
    good("    ", 0);
    good("  show  ", 1);
    bad("sh ow", 3, 0);
    bad("undo 1 2", 4, 7);
    good("undo 12", 1);
    bad("twist 1 + ov er", 4, 10);
    bad("jones = A A", 4, 10);
    good("code+[1,1,2,2]-[4,3,3,4]o5", 1);
    good(" code + [ 1 , 1 , 2 , 2 ] - [ 4 , 3 , 3 , 4 ] o 5 ", 1);
    good("push-1over-2", 1);
    good("push - 1 over - 2", 1);
    good("twist1+under", 1);
    good("jones=-3A^-2+A-2", 1);
    good("jones = - 3 A ^ - 2 + A - 2", 1);
    good("braid3-1-2-1", 1);
  }

  /** "WORDS, rows of letters a .. z and A .. Z, as long as they go"; "any other byte alone" */
  private static void wordsGoOnAsLongAsLettersDo() {
    for (char letter : new char[] {'a', 'z', 'A', 'Z'}) {
      bad("show" + letter, 3, 0);
      bad(letter + "show", 3, 0);
    }
    for (char mark : new char[] {'@', '[', '`', '{', '/', ':', '_', '~', '!'}) {
      bad("show" + mark, 4, 4);
      bad("show" + mark + mark, 4, 4);
      bad(mark + "show", 3, 0);
    }
    bad("showshow", 3, 0);
    bad("Show", 3, 0);
    bad("sho", 3, 0);
    bad("jones = AA", 4, 8);
    bad("jones = a", 4, 8);
    bad("alexander = T", 4, 12);
    bad("codeo 1", 3, 0);
    good("code o1", 1);
    bad("code O 1", 4, 5);
    bad("code oo 1", 4, 5);
    bad("push 1 overunder 2", 4, 7);
  }

  /** "NUMBERS, rows of digits, as long as they go" */
  private static void numbersGoOnAsLongAsDigitsDo() {
    good("undo 9", 1);
    bad("undo 1/", 4, 6);
    bad("undo 1:", 4, 6);
    bad("undo /", 4, 5);
    bad("undo :", 4, 5);
    bad("show0", 4, 4);
    bad("show9", 4, 4);
    bad("jones = A2", 4, 9);
    good("jones = 2A", 1);
    Session x = fresh("two digits are one number");
    x.text("code o 12");
    x.run(1);
    x.due("circles", x.state(3), 12);
  }

  /** "Lines without tokens are none." */
  private static void linesWithoutTokensAreNone() {
    good("\n\n  \n # no \n#\nshow\n\n", 1);
    good("\n#\n".repeat(70) + "show\n", 1);
    good("show\n\n#\n".repeat(64) + "  # no line\n\n", 64);
  }

  /** "A line is one of these, its KIND ahead of it" */
  private static void eachKindHasItsWord() {
    String[] lines = {"code", "braid 1", "undo 0", "slide 0", "twist 0 + over", "push 1 over 2", "simplify", "mirror", "reverse 0",
      "change 0", "smooth 0", "number", "show", "count", "faces", "bracket", "jones", "alexander"};
    Session x = fresh("kinds");
    for (int kind = 1; kind <= 18; kind++) {
      x.due(lines[kind - 1], x.text(lines[kind - 1]), 1);
      x.due("kind of " + lines[kind - 1], x.state(1), kind);
    }
    for (String line : lines) {
      bad(line + " ]", 4, line.length() + 1);
      bad(line + " x", 4, line.length() + 1);
      bad("\n " + line.substring(1), 3, 2);
    }
  }

  /** "what stands in { } comes any number of times, in ( ) once or not" */
  private static void oncesAndNotsAndAnyNumbers() {
    good("code", 1);
    good("code o 0", 1);
    bad("code o 0 o 0", 4, 9);
    bad("code o 1" + CROSSING, 4, 9);
    good("code" + CROSSING, 1);
    good("braid 3", 1);
    good("braid 3 1", 1);
    good("jones = A", 1);
    good("jones = -A", 1);
    bad("jones = - -A", 4, 10);
    bad("jones = +A", 4, 8);
    bad("jones =", 4, 7);
    bad("jones = -", 4, 9);
    bad("jones = A = A", 4, 10);
    bad("jones = A +", 4, 11);
    bad("jones = A + - A", 4, 12);
    good("jones = 2", 1);
    good("jones = 2A", 1);
    good("jones = A^2", 1);
    good("jones = 2A^-2", 1);
    bad("jones = 2^2", 4, 9);
    bad("jones = A^2^2", 4, 11);
    bad("jones = A^--2", 4, 11);
    bad("jones = A^+2", 4, 10);
    good("bracket = A", 1);
    bad("bracket = t", 4, 10);
    bad("jones = t", 4, 8);
    good("alexander = t", 1);
    bad("alexander = A", 4, 12);
  }

  /** "S 1 or -1", "1 for over or 0 for under", "its exponent is X, or 1 with a V alone, or 0 without", "below 0 behind a -" */
  private static void numbersOfALine() {
    prints("code o 1\ntwist 0 + over\nshow", "code +[1, 1, 2, 2]\n");
    prints("code o 1\ntwist 0 + under\nshow", "code +[2, 2, 1, 1]\n");
    prints("code o 1\ntwist 0 - over\nshow", "code -[1, 2, 2, 1]\n");
    prints("code o 1\ntwist 0 - under\nshow", "code -[2, 1, 1, 2]\n");
    String line = "code +[1, 1, 2, 2] o 1\nbracket = ";
    prints(line + "A^5 + A", "# yes\n");
    prints(line + "A^5 + A^1", "# yes\n");
    prints(line + "A^5 + 1A", "# yes\n");
    prints(line + "A^5 + 1", "# no\n");
    prints(line + "A^5 - A", "# no\n");
    prints(line + "A^5 - A + 2A", "# yes\n");
    prints(line + "-A^5 + A + 2A^5", "# yes\n");
    prints(line + "A^5 + A + 0", "# yes\n");
    prints(line + "A^5 + A + 0A^-9", "# yes\n");
  }

  /** "A line has at most 20 crossings"; "a crossing's S" */
  private static void atMostTwentyCrossings() {
    String twenty = "code" + CROSSING.repeat(20);
    good(twenty, 1);
    good(twenty + " o 5", 1);
    int end = twenty.length() + 1;
    bad(twenty + " +[1, 1, 2, 2]", 5, end);
    bad(twenty + " -", 5, end);
    bad(twenty + " [", 4, end);
    bad(twenty + " 1", 4, end);
    bad(twenty + " 01", 2, end);
    bad(twenty + " \7", 1, end);
    bad("code" + CROSSING.repeat(19) + " +[1, 1, 2, 00]" + CROSSING, 2, 4 + 19 * 14 + 12);
  }

  /** "32 letters X of a braid"; "a letter" */
  private static void atMostThirtyTwoLetters() {
    String most = "braid 3" + " -1 2".repeat(16);
    good(most, 1);
    int end = most.length() + 1;
    bad(most + " 1", 5, end);
    bad(most + " -1", 5, end);
    bad(most + " -", 5, end);
    bad(most + " - 00", 5, end);
    bad(most + " 00", 2, end);
    bad(most + " 9999", 5, end);
    bad(most + " 10000", 2, end);
    bad(most + " +", 4, end);
    bad(most + " \200", 1, end);
  }

  /** "or 64 terms"; "the S of a term" */
  private static void atMostSixtyFourTerms() {
    String most = "jones = -1" + " - A".repeat(63);
    good(most, 1);
    int end = most.length() + 1;
    bad(most + " + A", 5, end);
    bad(most + " -", 5, end);
    bad(most + " + 00", 5, end);
    bad(most + " A", 4, end);
    bad(most + " 7", 4, end);
    bad(most + " 10000", 2, end);
    bad(most + " \200", 1, end);
    String plain = "alexander = 1" + "+1".repeat(63);
    good(plain, 1);
    bad(plain + "+1", 5, plain.length());
  }

  /** "a text has at most 64 lines"; of faults at its first token the first one counts */
  private static void atMostSixtyFourLines() {
    String most = "show\n".repeat(64);
    good(most, 64);
    good(most + "  ", 64);
    good(most + "# show\n", 64);
    bad(most + "show", 5, 320);
    bad(most + "\n  code o 00", 5, 323);
    bad(most + "shows", 3, 320);
    bad(most + "+", 3, 320);
    bad(most + "9999", 3, 320);
    bad(most + "10000", 2, 320);
    bad(most + "00", 2, 320);
    bad(most + "\37", 1, 320);
    bad("show\n".repeat(63) + "undo\nshow", 4, 319);
  }

  /** "1: a byte that is not 10 or 32 .. 126, at itself (behind a #, too)." */
  private static void strayBytes() {
    for (int b : new int[] {0, 9, 11, 13, 31, 127, 128, 255}) {
      String s = "" + (char) b;
      bad(s, 1, 0);
      bad("show" + s, 1, 4);
      bad("show #" + s, 1, 6);
      bad("#" + s, 1, 1);
      bad("undo 12" + s, 1, 7);
      bad("undo 1\n\n# " + s + "\n", 1, 10);
    }
    good("show # ~", 1);
    bad("show ~", 4, 5);
    good("show \n", 1);
  }

  /** "2: a number, at its first byte, that has more than 18 digits, or begins with a 0 and has more than one, or that is above 9999 and no N of a T." */
  private static void wrongNumbers() {
    good("undo 0", 1);
    bad("undo 00", 2, 5);
    bad("undo 01", 2, 5);
    good("undo 10", 1);
    good("undo 9999", 1);
    bad("undo 10000", 2, 5);
    good("code o 9999", 1);
    bad("code o 10000", 2, 7);
    good("code +[9999, 9999, 9999, 9999]", 1);
    bad("code +[1, 1, 2, 10000]", 2, 16);
    good("braid 9999 9999 -9999", 1);
    bad("braid 10000", 2, 6);
    bad("braid 3 -10000", 2, 9);
    good("push -9999 over 9999", 1);
    bad("push 10000 over 1", 2, 5);
    bad("push 1 over -10000", 2, 13);
    good("jones = 9999A^9999 - 10000A^-9999", 1);
    bad("jones = A^10000", 2, 10);
    bad("jones = A^-10000", 2, 11);
    bad("jones = A^00", 2, 10);
    good("jones = 100000000000000000A", 1);
    good("jones = 999999999999999999", 1);
    bad("jones = 1000000000000000000", 2, 8);
    bad("jones = 0000000000000000001", 2, 8);
    bad("jones = 00", 2, 8);
    bad("jones = 1 - 09A", 2, 12);
    bad("jones = A 10000", 2, 10);
    bad("jones 10000", 2, 6);
    bad("jones = 1 10000", 2, 10);
    bad("undo " + "9".repeat(19), 2, 5);
    // One above a row of 64 bits, which wraps around to what is small.
    bad("undo 18446744073709551617", 2, 5);
    bad("undo 4294967297", 2, 5);
    bad("undo 3 00", 2, 7);
    bad("00", 2, 0);
    good("show # 00 10000", 1);
  }

  /** "3: no word that a line begins with, at the first token of one." */
  private static void noWordOfALine() {
    for (String token : new String[] {"over", "o", "A", "t", "x", "7", "9999", "-", "=", "]"}) {
      bad(token, 3, 0);
      bad("show\n  " + token + " show", 3, 7);
    }
  }

  /** "4: a token, or a line's end (at its 10, or at the text's length, whatever does not count ahead of it), where something else has to be." */
  private static void somethingElseHasToBe() {
    bad("undo", 4, 4);
    bad("undo   ", 4, 7);
    bad("undo  # 1 ", 4, 10);
    bad("undo\n", 4, 4);
    bad("undo  # 1\nshow", 4, 9);
    bad("undo x", 4, 5);
    bad("undo -1", 4, 5);
    bad("show 1", 4, 5);
    String[] whole = {"code", "+", "[", "1", ",", "2", ",", "3", ",", "4", "]"};
    StringBuilder s = new StringBuilder();
    for (int i = 0; i < whole.length; i++) {
      s.append(whole[i]);
      if (i >= 1 && i + 1 < whole.length) bad(s.toString(), 4, s.length());
      if (i >= 1) bad(s + "?", 4, s.length());
    }
    good(s.toString(), 1);
    for (String part : new String[] {"twist", "twist 1", "twist 1 +", "push", "push 1", "push -", "push 1 over", "push 1 over -", "braid", "slide", "reverse",
      "change", "smooth", "code o", "code +", "braid 2 -", "jones =", "jones = A^", "jones = A^-", "jones = A -"}) {
      bad(part, 4, part.length());
      bad(part + "?", 4, part.length());
      bad(part + "  \nshow\n", 4, part.length() + 2);
    }
    bad("braid -1", 4, 6);
    bad("twist -1 + over", 4, 6);
    bad("code +[-1, 1, 2, 2]", 4, 7);
    bad("code +[1, -1, 2, 2]", 4, 10);
    bad("code +[1, 1, -2, 2]", 4, 13);
    bad("code +[1, 1, 2, -2]", 4, 16);
    bad("code o -1", 4, 7);
    bad("push +1 over 1", 4, 5);
    bad("braid 2 +1", 4, 8);
  }

  /** "FAULTS, the first one by its PLACE (bytes from 0 on)" */
  private static void theFirstFaultByItsPlace() {
    bad("undo ? \200", 4, 5);
    bad("undo \200 ?", 1, 5);
    bad("undo 00 \200", 2, 5);
    bad("shows 00", 3, 0);
    bad("undo 1\nundo\nshows", 4, 11);
    bad("undo # \200", 1, 7);
    bad("undo 00\200", 2, 5);
    bad("undo 1\nshows\nundo 00\n\200", 3, 7);
    bad("show 1\n" + "show\n".repeat(64), 4, 5);
  }

  /** "of several there the first of these" */
  private static void ofSeveralFaultsTheFirst() {
    bad("show 9999", 4, 5);
    bad("show 10000", 2, 5);
    bad("show 00", 2, 5);
    bad("9999", 3, 0);
    bad("10000", 2, 0);
    bad("\200", 1, 0);
    bad("undo +", 4, 5);
    bad("undo \t", 1, 5);
    bad("twist 1 00", 2, 8);
    bad("jones 00", 2, 6);
  }

  /** "In P the first term has its - ahead of it, without a space; others have their S; N is left out where it is 1 and a V comes, V with exponent 0, ^ X with exponent 1." */
  private static void printedTerms() {
    prints("code o 1\nbracket", "bracket = 1\n");
    prints("code o 2\nbracket", "bracket = -A^-2 - A^2\n");
    prints("code o 3\nbracket", "bracket = A^-4 + 2 + A^4\n");
    prints("code +[1, 1, 2, 2] o 1\nbracket", "bracket = A + A^5\n");
    prints("code -[2, 1, 1, 2] o 1\nbracket", "bracket = A^-5 + A^-1\n");
    prints("code +[1, 1, 2, 2] +[3, 3, 4, 4] o 1\nbracket", "bracket = A^2 + 2A^6 + A^10\n");
    prints("code +[1, 1, 2, 2]\nbracket", "bracket = -A^3\n");
    prints("code +[1, 1, 2, 2] o 3\nbracket", "bracket = A^-3 + 3A + 3A^5 + A^9\n");
    prints("code +[1, 1, 2, 2] -[3, 4, 4, 3]\nbracket", "bracket = -A^-2 - A^2\n");
    prints("code o 4\nbracket", "bracket = -A^-6 - 3A^-2 - 3A^2 - A^6\n");
    prints("braid 2 1 1 1\nalexander", "alexander = 1 - t + t^2\n");
    prints("braid 3 1 -2 1 -2\nalexander", "alexander = 1 - 3t + t^2\n");
    prints("code o 2\nalexander", "alexander = 0\n");
  }

  /** "Without circles o N is left out." */
  private static void printedCircles() {
    prints("code o 0\nshow", "code\n");
    prints("code o 1\nshow", "code o 1\n");
    prints("code o 20\nshow", "code o 20\n");
    prints("code -[9999, 10, 10, 9999]\nshow", "code -[9999, 10, 10, 9999]\n");
    prints("code -[4, 3, 3, 4] +[1, 1, 2, 2] o 1\nshow", "code -[4, 3, 3, 4] +[1, 1, 2, 2] o 1\n");
  }

  /** Promise 2: "how many there are. -1, doing nothing, when there would be more than 4,000." */
  private static void feedUpToTheLastByte() {
    Session x = fresh("feed");
    for (int i = 1; i <= 200; i++) x.due("feed " + i, x.feed(0x20202020, 0x20202020, 0x20202020, 0x20202020, 0x2020200a), 20 * i);
    x.refused("one more", () -> x.feed(0x73686f77, 0x0a0a0a0a, 0, 0, 0), -1);
    x.due("tape", x.state(7), 4000);
    x.due("read", x.read(4000), 0);
    x.due("feed behind", x.feed(0x73686f77, 0x20202020, 0x20202020, 0x20202020, 0x20202020), 20);
    x.due("read behind", x.read(20), 1);
    for (int bytes : new int[] {3980, 3981, 3999, 4000}) {
      Session y = fresh("feed behind " + bytes);
      y.fill(bytes);
      y.due("wipe", y.wipe(true), bytes);
      if (bytes == 3980) y.due("feed", y.feed(0, 0, 0, 0, 0), 4000);
      y.refused("feed", () -> y.feed(0, 0, 0, 0, 0), -1);
      y.due("tape", y.state(7), bytes == 3980 ? 4000 : bytes);
    }
  }

  /** "four of each number, the highest first" */
  private static void feedIsUnsigned() {
    Session x = fresh("bytes");
    x.due("feed", x.feed(0x73686f77, 0x2023807f, -1, Integer.MIN_VALUE, Integer.MAX_VALUE), 20);
    x.due("read", x.read(6), 1);
    x.due("feed", x.feed(0x73686f77, 0x2023807f, -1, Integer.MIN_VALUE, Integer.MAX_VALUE), 20);
    x.due("read", x.read(7), -1);
    x.due("fault", x.fault(0) * 100 + x.fault(1), 106);
    x.due("feed", x.feed(0x0a0a0a0a, 0x0a0a0a0a, 0x0a0a0a0a, 0x0a0a0a0a, 0x0a0a0aff), 20);
    x.due("read", x.read(20), -1);
    x.due("fault", x.fault(0) * 100 + x.fault(1), 119);
  }

  /** Promise 3: "The first n bytes of the tape (which is empty then)"; "-2, doing nothing, when n is below 0 or more than there are." */
  private static void readCountsBytes() {
    Session x = fresh("read");
    x.refused("read(1) of nothing", () -> x.read(1), -2);
    x.refused("read(-1) of nothing", () -> x.read(-1), -2);
    x.due("read(0) of nothing", x.read(0), 0);
    x.due("feed", x.put("show\ncount\nundo 12"), 20);
    x.refused("read(21)", () -> x.read(21), -2);
    x.refused("read(-1)", () -> x.read(-1), -2);
    x.refused("read(least)", () -> x.read(Integer.MIN_VALUE), -2);
    x.refused("read(most)", () -> x.read(Integer.MAX_VALUE), -2);
    x.due("read(20)", x.read(20), 3);
    x.due("tape", x.state(7), 0);
    x.refused("read(1)", () -> x.read(1), -2);
    x.due("lines wait on", x.run(2), 2);
    int[][] cuts = {{4, 1}, {5, 1}, {10, 2}, {11, 2}, {17, 3}, {18, 3}};
    for (int[] cut : cuts) {
      x.put("show\ncount\nundo 12");
      x.due("read(" + cut[0] + ")", x.read(cut[0]), cut[1]);
      x.due("the rest is gone", x.state(7), 0);
    }
    int[][] faults = {{3, 3, 0}, {7, 3, 5}, {15, 4, 15}, {16, 4, 16}};
    for (int[] cut : faults) {
      x.put("show\ncount\nundo 12");
      x.due("read(" + cut[0] + ")", x.read(cut[0]), -1);
      x.due("fault of read(" + cut[0] + ")", x.fault(0) * 100 + x.fault(1), 100 * cut[1] + cut[2]);
      x.due("the rest is gone", x.state(7), 0);
    }
    x.put("show");
    x.due("read(0)", x.read(0), 0);
    x.due("none wait", x.state(0), 0);
    x.due("tape", x.state(7), 0);
  }

  /** "how many lines wait from now on; -1 when there is a fault: then none do" */
  private static void readOfAFault() {
    Session x = fresh("a fault");
    x.due("read", x.text("code o 3\nshow\nshow"), 3);
    x.due("run", x.run(1), 1);
    x.due("read", x.text("show\nshows"), -1);
    x.due("lines", x.state(0), 0);
    x.due("kind", x.state(1), 0);
    x.due("run", x.run(16), 0);
    x.due("printed", x.state(6), 5);
    x.due("circles", x.state(3), 3);
    x.due("read", x.text("show\nshow"), 2);
    x.due("read again", x.text("count"), 1);
    x.due("kind", x.state(1), 14);
    x.due("run", x.run(16), 1);
    x.due("read of nothing", x.read(0), 0);
    x.due("run", x.run(16), 0);
  }

  /** A text of 4,000 bytes: full of spaces, letters, digits, tens, a line's end at its end, as many numbers as go. */
  private static void readOfAFullTape() {
    full(" ", 0, 0, -1);
    full("\n", 0, 0, -1);
    full("#", 0, 0, -1);
    full("x", -1, 3, 0);
    full("7", -1, 2, 0);
    full("undo" + " ".repeat(3996), -1, 4, 4000);
    full("# " + "x".repeat(3992) + "\nundo 3".substring(0, 6), -1, 4, 4000);
    full(" ".repeat(3994) + "undo 3", 1, 0, -1);
    full(" ".repeat(3999) + "\200", -1, 1, 3999);
    String dense = ("jones=A" + "+A".repeat(63) + "\n").repeat(29);
    String text = dense + "jones=64A-63A-A+1\n";
    Session x = fresh("as many numbers as go");
    x.put(text + " ".repeat(4000 - text.length()));
    x.due("read", x.read(4000), 30);
    for (int i = 0; i < 29; i++) x.due("run", x.run(16), 1);
    x.due("run", x.run(16), 1);
    x.due("printed", x.paper(), "# no\n".repeat(29) + "# yes\n");
  }

  private static void full(String what, int lines, int code, int place) {
    Session x = fresh("4,000 bytes of <" + what.substring(0, Math.min(8, what.length())) + ">");
    String text = what.length() == 1 ? what.repeat(4000) : what;
    x.due("fed", x.put(text), 4000);
    x.due("read", x.read(4000), lines);
    x.due("fault", x.fault(0), code);
    x.due("place", x.fault(1), place);
  }

  /** Promise 4: "Of the latest read() that was not -2: 0 its fault (0: none), 1 the place (-1 without a fault); -1 when there was no such read(), or what is another." */
  private static void faultOfTheLatestRead() {
    Session x = fresh("fault");
    for (int w = -1; w <= 2; w++) x.due("before any read, " + w, x.fault(w), -1);
    x.due("read", x.read(1), -2);
    x.due("fault behind -2", x.fault(0), -1);
    x.due("read", x.read(0), 0);
    x.due("fault", x.fault(0), 0);
    x.due("place", x.fault(1), -1);
    x.due("read", x.text("show\n  undo x"), -1);
    x.due("fault", x.fault(0), 4);
    x.due("place", x.fault(1), 12);
    for (int w : new int[] {-1, 2, Integer.MIN_VALUE, Integer.MAX_VALUE}) x.due("what " + w, x.fault(w), -1);
    x.due("read", x.read(-1), -2);
    x.due("fault behind -2", x.fault(0), 4);
    x.due("place behind -2", x.fault(1), 12);
    x.due("feed, run, wipe", x.feed(0, 0, 0, 0, 0) + x.run(16) + x.wipe(false), 20);
    x.due("fault behind others", x.fault(0), 4);
    x.due("read", x.read(0), 0);
    x.due("no fault", x.fault(0), 0);
    x.due("no place", x.fault(1), -1);
  }
}
