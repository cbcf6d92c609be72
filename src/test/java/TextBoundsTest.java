/** A test for each boundary case of the input, of texts and their statements, and of the paper: promises 3, 4, 5, 33 and 34. */
public final class TextBoundsTest {
    private static final Check CHECK = new Check("TextBoundsTest");
    private static final String DIGITS = "0123456789";
    private static final String TESTS = "hwnlz";
    private static final String LETTERS = "zbmdfscar";

    public static void main(String[] args) {
        input();
        inputIsEmptyAfterwards();
        versions();
        counts();
        faults();
        shorterTexts();
        grammar();
        order();
        ranges();
        mostRanges();
        breaks();
        removedBreaks();
        mostBreaks();
        numbers();
        charges();
        accessorials();
        nothingElse();
        allOrNone();
        impossible();
        impossibleStays();
        writing();
        writtenNumbers();
        paper();
        CHECK.end();
    }

    private static final String EIGHTY = "c1;c2;c3;c4;c5;c6;c7;c8;c9;c1;c2;c3;c4;c5;c6;c7;c8;c9;c1;c2;c3;c4;c5;c6;c7;c8;c9";

    private static void input() {
        CHECK.test("3 the input has at most 80 characters", () -> {
            FreightRater x = new FreightRater();
            for (int i = 1; i <= 80; i++) {
                CHECK.is("character " + i, i, () -> x.feed('c'));
            }
            CHECK.fails("character 81", Check.STATE, () -> x.feed('c'));
            CHECK.fails("and once more", Check.STATE, () -> x.feed('1'));
        });
        CHECK.test("3 a refused character is not appended", () -> {
            FreightRater x = Check.rater();
            Check.feed(x, EIGHTY);
            CHECK.fails("character 81", Check.STATE, () -> x.feed(';'));
            CHECK.is("amend(0)", 27, () -> x.amend(0));
            CHECK.is("the last capacity", 9, () -> x.version(0, 5));
        });
        CHECK.test("3 a full input is empty after amend, and can be filled again", () -> {
            FreightRater x = Check.rater();
            Check.feed(x, EIGHTY);
            x.amend(0);
            CHECK.is("character 1", 1, () -> x.feed('c'));
            Check.feed(x, EIGHTY.substring(1));
            CHECK.fails("character 81", Check.STATE, () -> x.feed(';'));
            CHECK.is("amend(0)", 27, () -> x.amend(0));
        });
        CHECK.test("3 any character can be appended, the first one and the last one", () -> {
            FreightRater x = Check.rater();
            CHECK.is("feed(0)", 1, () -> x.feed((char) 0));
            CHECK.is("feed(65535)", 2, () -> x.feed((char) 65535));
            CHECK.is("amend(0)", -100, () -> x.amend(0));
        });
    }

    private static void inputIsEmptyAfterwards() {
        CHECK.test("4 the input is empty after success", () -> {
            FreightRater x = Check.rater();
            Check.amend(x, 0, "c5");
            CHECK.is("feed", 1, () -> x.feed('c'));
            CHECK.is("amend(0)", -101, () -> x.amend(0));
        });
        CHECK.test("4 the input is empty after a fault", () -> {
            FreightRater x = Check.rater();
            Check.amend(x, 0, "c5;");
            CHECK.is("amend(0)", -100, () -> x.amend(0));
            CHECK.is("the capacity", 999, () -> x.version(0, 5));
        });
        CHECK.test("4 the input is empty after an impossible statement", () -> {
            FreightRater x = Check.rater();
            CHECK.fails("amend(0)", Check.UNSUPPORTED, () -> Check.amend(x, 0, "c5;r0"));
            CHECK.is("amend(0)", -100, () -> x.amend(0));
        });
        CHECK.test("4 the input is empty afterwards, also if there is no such version", () -> {
            FreightRater x = Check.rater();
            CHECK.fails("amend(1)", Check.INDEX, () -> Check.amend(x, 1, "c5"));
            CHECK.is("amend(0)", -100, () -> x.amend(0));
            CHECK.is("the capacity", 999, () -> x.version(0, 5));
        });
    }

    private static void versions() {
        CHECK.test("4 version: the first one and the last one are allowed", () -> {
            FreightRater x = Check.rater();
            x.makeVersion(1, -1);
            CHECK.is("amend(0)", 1, () -> Check.amend(x, 0, "c5"));
            CHECK.is("amend(1)", 1, () -> Check.amend(x, 1, "c6"));
            CHECK.is("the first one's capacity", 5, () -> x.version(0, 5));
            CHECK.is("the last one's capacity", 6, () -> x.version(1, 5));
        });
        CHECK.test("4 version: there is no such one", () -> {
            FreightRater x = Check.rater();
            for (int version : Check.outside(0, 0)) {
                CHECK.fails("amend(" + version + ")", Check.INDEX, () -> Check.amend(x, version, "c5"));
            }
            CHECK.fails("amend(0) of a new object", Check.INDEX, () -> new FreightRater().amend(0));
        });
        CHECK.test("4 exceptions: the version comes first, then the fault", () -> {
            FreightRater x = Check.rater();
            CHECK.fails("no such version and a fault", Check.INDEX, () -> Check.amend(x, 1, "c"));
            CHECK.fails("no such version and no text at all", Check.INDEX, () -> x.amend(-1));
        });
        CHECK.test("4 exceptions: the version comes first, then the impossible statement, of which nothing is kept", () -> {
            FreightRater x = Check.rater();
            CHECK.fails("no such version", Check.INDEX, () -> Check.amend(x, 1, "r0"));
            CHECK.fails("impossible()", Check.MISSING, () -> x.impossible());
        });
        CHECK.test("4 exceptions: the fault comes first, then the impossible statement, of which nothing is kept", () -> {
            FreightRater x = Check.rater();
            CHECK.is("amend(0)", -103, () -> Check.amend(x, 0, "r0;x"));
            CHECK.is("amend(0)", -105, () -> Check.amend(x, 0, "f100;"));
            CHECK.fails("impossible()", Check.MISSING, () -> x.impossible());
        });
    }

    private static void counts() {
        CHECK.test("4 the number of statements: the fewest and the most", () -> {
            FreightRater x = Check.rater();
            CHECK.is("one", 1, () -> Check.amend(x, 0, "c1"));
            CHECK.is("27", 27, () -> Check.amend(x, 0, EIGHTY));
        });
        CHECK.test("4 the longest text is one statement", () -> {
            String longest = "a1:1?w<10&w<10&w<10&w<10&w<10&w<10&w<10&w<10&w<10&w<10&w<10&w<10&w<10&w<10&w<1!2";
            CHECK.is("its length", 80, () -> longest.length());
            CHECK.is("amend(0)", 1, () -> Check.amend(Check.rater(), 0, longest));
        });
    }

    private static void fault(String text, int position) {
        CHECK.is("'" + text + "'", -100 - position, () -> Check.amend(Check.rater(), 0, text));
    }

    private static void faults() {
        CHECK.test("4 an empty input ends too early at 0", () -> fault("", 0));
        CHECK.test("4 a fault at the first character", () -> fault("xc1;c2", 0));
        CHECK.test("4 a fault at the last character", () -> fault("c1;c2x", 5));
        CHECK.test("4 a text that ends too early, by one character", () -> {
            fault("c1;c", 4);
            fault("z1:0-", 5);
            fault("a1:1?w<", 7);
        });
        CHECK.test("4 a text of 80 characters that ends too early", () -> fault(EIGHTY.substring(0, 74) + ";c123;", 80));
        CHECK.test("4 a text of 80 characters with a fault at the last one", () -> fault(EIGHTY.substring(0, 79) + "x", 79));
        CHECK.test("4 the offset counts from the beginning of the text, not of the statement", () -> {
            fault("c1;c2;z", 7);
            fault("c1;c2;z0:1-2", 7);
        });
        CHECK.test("4 the first of several faults counts", () -> fault("c1;x;y;;", 3));
        CHECK.test("4 a fifth digit cannot continue a text", () -> {
            fault("c12345", 5);
            fault("c00001", 5);
            fault("z1:12345-1", 7);
        });
        CHECK.test("4 a number has at least one digit", () -> {
            fault("c;", 1);
            fault("z1:-5", 3);
            fault("b1:5*;", 5);
        });
        CHECK.test("4 numbers of one digit and of four, with zeros at the beginning", () -> {
            FreightRater x = Check.rater("c0");
            CHECK.is("c0", 0, () -> x.version(0, 5));
            Check.amend(x, 0, "c9999");
            CHECK.is("c9999", 9999, () -> x.version(0, 5));
            Check.amend(x, 0, "c0000");
            CHECK.is("c0000", 0, () -> x.version(0, 5));
            Check.amend(x, 0, "c0010");
            CHECK.is("c0010", 10, () -> x.version(0, 5));
        });
        CHECK.test("4 a text with a fault carries nothing out and is no change", () -> {
            FreightRater x = new FreightRater();
            x.makeVersion(0, -1);
            CHECK.is("amend(0)", -103, () -> Check.amend(x, 0, "c5;"));
            CHECK.is("the capacity", 999, () -> x.version(0, 5));
            CHECK.is("makeVersion is undone", 0, () -> x.undo());
        });
    }

    /** Each beginning of the text ends too early or is a text itself, also if the whole text was the input before. */
    private static void shorterThanBefore(String text, int... whole) {
        FreightRater x = Check.rater();
        for (int length = 0; length < text.length(); length++) {
            boolean isWhole = false;
            for (int one : whole) {
                isWhole = isWhole || one == length;
            }
            CHECK.is("the whole text", 1, () -> Check.amend(x, 0, text));
            String beginning = text.substring(0, length);
            CHECK.is("'" + beginning + "'", isWhole ? 1 : -100 - length, () -> Check.amend(x, 0, beginning));
        }
    }

    private static void shorterTexts() {
        CHECK.test("4 nothing of a longer input before is left behind a shorter one", () -> {
            shorterThanBefore("z1:1-34", 6);
            shorterThanBefore("b1:12*34", 7);
            shorterThanBefore("m1:12", 4);
            shorterThanBefore("s56", 2);
            shorterThanBefore("c56", 2);
            shorterThanBefore("a1:2%?-h3&w<4!5", 4, 5, 9, 13);
            shorterThanBefore("a1:2*?h3|n>4", 4, 5, 8);
        });
        CHECK.test("4 nothing of a longer input before is left, of several statements", () -> {
            FreightRater x = Check.rater("c1;c2;c3");
            CHECK.is("'c4;'", -103, () -> Check.amend(x, 0, "c4;"));
            CHECK.is("'c4'", 1, () -> Check.amend(x, 0, "c4"));
            CHECK.is("the capacity", 4, () -> x.version(0, 5));
        });
    }

    /** Behind this beginning of a text these characters can follow, and no other ones; a text may end here or not. */
    private static void follows(String beginning, boolean mayEnd, String allowed) {
        CHECK.test("4 behind '" + beginning + "' " + (allowed.isEmpty() ? "nothing" : "only '" + allowed + "'") + " can follow", () -> {
            int faulty = -100 - beginning.length();
            CHECK.is("nothing behind it is a fault", mayEnd ? 0 : 1, () -> answer(beginning) == faulty ? 1 : 0);
            for (int c = 0; c < 400; c++) {
                char character = (char) c;
                CHECK.is("character " + c + " is a fault", allowed.indexOf(character) >= 0 ? 0 : 1,
                        () -> answer(beginning + character) == faulty ? 1 : 0);
            }
            CHECK.is("character 65535 is a fault", faulty, () -> answer(beginning + (char) 65535));
        });
    }

    /** What amend answers; 0 if a statement is impossible, which is no fault. */
    private static int answer(String text) {
        try {
            return Check.amend(Check.rater(), 0, text);
        } catch (UnsupportedOperationException thrown) {
            return 0;
        }
    }

    private static void grammar() {
        follows("", false, LETTERS);
        follows("c1;", false, LETTERS);
        grammarOfZones();
        for (char letter : new char[] {'d', 'f', 's', 'c'}) {
            number(letter + "", ";");
        }
        follows("a", false, DIGITS);
        follows("a0", false, ":");
        number("a0:", "%*?!;");
        follows("a0:1%", true, "?!;");
        follows("a0:1*", true, "?!;");
        follows("a0:1!", false, DIGITS);
        follows("a0:1!0", true, ";");
        grammarOfConditions();
        follows("r", false, DIGITS);
        follows("r0", true, ";");
    }

    private static void grammarOfZones() {
        for (char letter : new char[] {'z', 'b', 'm'}) {
            follows(letter + "", false, "123456789");
            follows(letter + "1", false, ":");
        }
        beginningNumber("z1:", "-");
        number("z1:1-", ";");
        beginningNumber("b1:", "*");
        number("b1:1*", ";");
        number("m1:", ";");
    }

    private static void grammarOfConditions() {
        follows("a0:1?", false, "-" + TESTS);
        follows("a0:1?-", false, TESTS);
        follows("a0:1?h", false, "01234567");
        follows("a0:1?h0", true, "&|!;");
        follows("a0:1?-h7", true, "&|!;");
        follows("a0:1?h0&", false, "-" + TESTS);
        follows("a0:1?h0|", false, "-" + TESTS);
        follows("a0:1?h0&h0", true, "&|!;");
        follows("a0:1?h0|h0", true, "&|!;");
        follows("a0:1?h0!", false, DIGITS);
        follows("a0:1?h0!0", true, ";");
        for (char test : new char[] {'w', 'n', 'l', 'z'}) {
            follows("a0:1?" + test, false, "<>=");
        }
        for (char relation : new char[] {'<', '>', '='}) {
            number("a0:1?w" + relation, "&|!;");
        }
    }

    /** A number can follow, and behind it the text may end. */
    private static void number(String beginning, String behind) {
        follows(beginning, false, DIGITS);
        follows(beginning + "1", true, DIGITS + behind);
        follows(beginning + "123", true, DIGITS + behind);
        follows(beginning + "1234", true, behind);
    }

    /** A number can follow, and behind it the text may not end. */
    private static void beginningNumber(String beginning, String behind) {
        follows(beginning, false, DIGITS);
        follows(beginning + "1", false, DIGITS + behind);
        follows(beginning + "123", false, DIGITS + behind);
        follows(beginning + "1234", false, behind);
    }

    private static void possible(String before, String text, int statements) {
        CHECK.is("'" + text + "'", statements, () -> Check.amend(Check.rater(before), 0, text));
    }

    /** A text of one statement that is impossible after the one before, and leaves the version as it was. */
    private static void impossible(String before, String text) {
        FreightRater x = Check.rater(before);
        String view = View.version(x, 0);
        CHECK.fails("'" + text + "'", Check.UNSUPPORTED, () -> Check.amend(x, 0, text));
        CHECK.is("the statement of '" + text + "'", 0, () -> x.impossible());
        CHECK.reads("the version after '" + text + "'", view, View.version(x, 0));
    }

    private static void order() {
        CHECK.test("4 statements are carried out in their order", () -> {
            CHECK.is("the last one stays", 3, () -> Check.rater("c1;c2;c3").version(0, 5));
            possible("c1", "a0:1;r0", 2);
            possible("c1", "b1:5*5;b1:5*0", 2);
            possible("c1", "b1:5*5;b1:5*0;b1:5*5", 3);
            impossible("c1", "r0;a0:1");
            impossible("c1", "b1:5*0;b1:5*5");
        });
        CHECK.test("4 a removed accessorial can be set and removed again in the same text", () -> {
            FreightRater x = Check.rater("a0:1;r0;a0:2;r0;a0:3");
            CHECK.is("the charge", 3, () -> x.accessorial(0, 0, 0));
        });
    }

    private static void ranges() {
        CHECK.test("4 z: the first place and the last one of all", () -> {
            possible("c1", "z1:0-0", 1);
            possible("c1", "z1:999-999", 1);
            possible("c1", "z1:0-999", 1);
        });
        CHECK.test("4 z: a place above 999 is impossible", () -> {
            impossible("z1:0-9", "z1:0-1000");
            impossible("z1:0-9", "z1:1000-1000");
            impossible("z1:0-9", "z1:999-9999");
            impossible("z1:0-9", "z1:9999-9999");
        });
        CHECK.test("4 z: the first place may be the second one, but not greater", () -> {
            possible("c1", "z1:5-5", 1);
            possible("c1", "z1:5-6", 1);
            impossible("z1:0-9", "z1:6-5");
            impossible("z1:0-9", "z1:1000-999");
            impossible("z1:0-9", "z1:1-0");
        });
        CHECK.test("4 z: zones 1 and 9", () -> {
            FreightRater x = Check.rater("z1:0-4;z9:5-9");
            CHECK.is("zone 1", 1, () -> x.zoneOf(0, 4));
            CHECK.is("zone 9", 9, () -> x.zoneOf(0, 5));
        });
        CHECK.test("4 z: the range is put behind the other ones", () -> {
            FreightRater x = Check.rater("z1:0-9;z2:0-9;z1:0-9");
            CHECK.is("zoneOf(0, 5)", 1, () -> x.zoneOf(0, 5));
            Check.amend(x, 0, "z3:5-5");
            CHECK.is("zoneOf(0, 5)", 3, () -> x.zoneOf(0, 5));
        });
    }

    private static final String SIX_RANGES = "z1:0-9;z1:0-9;z1:0-9;z1:0-9;z1:0-9;z1:0-9";

    private static void mostRanges() {
        CHECK.test("4 z: a twelfth range is possible, a thirteenth is not", () -> {
            FreightRater x = Check.rater(SIX_RANGES, SIX_RANGES.substring(7));
            CHECK.is("the twelfth", 1, () -> Check.amend(x, 0, "z2:5-5"));
            CHECK.fails("the thirteenth", Check.UNSUPPORTED, () -> Check.amend(x, 0, "z3:5-5"));
            CHECK.is("ranges", 12, () -> x.version(0, 1));
            CHECK.is("the zone", 2, () -> x.zoneOf(0, 5));
        });
        CHECK.test("4 z: a thirteenth range is impossible in one text, too", () -> {
            FreightRater x = Check.rater(SIX_RANGES);
            CHECK.fails("seven more", Check.UNSUPPORTED, () -> Check.amend(x, 0, SIX_RANGES + ";z2:0-9"));
            CHECK.is("the statement", 6, () -> x.impossible());
            CHECK.is("ranges", 6, () -> x.version(0, 1));
        });
        CHECK.test("4 z: there are 12 ranges for each version", () -> {
            FreightRater x = Check.rater(SIX_RANGES, SIX_RANGES);
            x.makeVersion(1, -1);
            CHECK.is("the first one of another version", 1, () -> Check.amend(x, 1, "z1:0-9"));
            x.makeVersion(2, 0);
            CHECK.fails("a thirteenth one of the copy", Check.UNSUPPORTED, () -> Check.amend(x, 2, "z1:0-9"));
        });
    }

    private static void breaks() {
        CHECK.test("4 b: the weights 0 and 9999", () -> {
            FreightRater x = Check.rater("b1:0*1;b1:9999*2");
            CHECK.is("the least weight", 0, () -> x.breakOf(0, 1, 0, false));
            CHECK.is("the greatest weight", 9999, () -> x.breakOf(0, 1, 1, false));
        });
        CHECK.test("4 b: the rates 1 and 99", () -> {
            FreightRater x = Check.rater("b1:5*1;b1:6*99");
            CHECK.is("the least rate", 1, () -> x.breakOf(0, 1, 0, true));
            CHECK.is("the greatest rate", 99, () -> x.breakOf(0, 1, 1, true));
        });
        CHECK.test("4 b: a rate above 99 is impossible", () -> {
            impossible("b1:5*5", "b1:6*100");
            impossible("b1:5*5", "b1:5*100");
            impossible("b1:5*5", "b1:6*9999");
            impossible("b1:5*5", "b2:0*100");
        });
        CHECK.test("4 b: zones 1 and 9", () -> {
            FreightRater x = Check.rater("b1:5*6;b9:7*8");
            CHECK.is("zone 1", 5, () -> x.breakOf(0, 1, 0, false));
            CHECK.is("zone 9", 7, () -> x.breakOf(0, 9, 0, false));
        });
        CHECK.test("4 b: breaks of a zone differ by their weights, the same weight has a new rate", () -> {
            FreightRater x = Check.rater("b1:5*6;b1:5*7");
            CHECK.is("breaks", 1, () -> x.breakOf(0, 1, -1, false));
            CHECK.is("the rate", 7, () -> x.breakOf(0, 1, 0, true));
        });
    }

    private static void removedBreaks() {
        CHECK.test("4 b: the rate 0 removes a break, with up to four zeros", () -> {
            possible("b1:5*6", "b1:5*0", 1);
            possible("b1:5*6", "b1:5*0000", 1);
            possible("b1:0*6", "b1:0*0", 1);
            CHECK.is("breaks left", 0, () -> Check.rater("b1:5*6;b1:5*0").version(0, 7));
        });
        CHECK.test("4 b: a break that is to be removed does not exist", () -> {
            impossible("b1:5*6", "b1:4*0");
            impossible("b1:5*6", "b1:6*0");
            impossible("b1:5*6", "b2:5*0");
            impossible("c1", "b1:0*0");
            impossible("b1:5*6;b1:5*0", "b1:5*0");
        });
        int[][] left = {{1, 2, 3, 4}, {0, 2, 3, 4}, {0, 1, 3, 4}, {0, 1, 2, 4}, {0, 1, 2, 3}};
        for (int k = 0; k < 5; k++) {
            int removed = k;
            CHECK.test("4 b: break " + removed + " of five is removed, the other ones stay", () -> {
                FreightRater x = Check.rater("b1:0*10;b1:1*11;b1:2*12;b1:3*13;b1:4*14;b1:" + removed + "*0");
                CHECK.is("breaks", 4, () -> x.breakOf(0, 1, -1, false));
                for (int i = 0; i < 4; i++) {
                    int asked = i;
                    CHECK.is("weight " + i, left[removed][i], () -> x.breakOf(0, 1, asked, false));
                    CHECK.is("rate " + i, 10 + left[removed][i], () -> x.breakOf(0, 1, asked, true));
                }
            });
        }
    }

    private static void mostBreaks() {
        String five = "b1:1*1;b1:2*1;b1:3*1;b1:4*1;b1:5*1";
        CHECK.test("4 b: a fifth break is possible, a sixth is not", () -> {
            possible(five.substring(7), "b1:1*1", 1);
            impossible(five, "b1:0*1");
            impossible(five, "b1:6*1");
        });
        CHECK.test("4 b: with five breaks one of them can be set anew", () -> {
            possible(five, "b1:1*9", 1);
            possible(five, "b1:5*9", 1);
        });
        CHECK.test("4 b: with five breaks one can be removed, and another one set", () -> {
            possible(five, "b1:3*0;b1:6*1", 2);
            impossible(five + ";b1:3*0;b1:6*1", "b1:3*1");
        });
        CHECK.test("4 b: each zone has five breaks of its own", () -> possible(five, "b2:1*1;b2:2*1;b2:3*1;b2:4*1;b2:5*1", 5));
    }

    /** The statement has this effect for the least number and the greatest one. */
    private static void limits(String letter, int what, int least, int greatest) {
        FreightRater x = Check.rater();
        Check.amend(x, 0, letter + least);
        CHECK.is(letter + least, least, () -> x.version(0, what));
        Check.amend(x, 0, letter + greatest);
        CHECK.is(letter + greatest, greatest, () -> x.version(0, what));
    }

    private static void numbers() {
        CHECK.test("4 m: 0 and 9999, in zones 1 and 9", () -> {
            FreightRater x = Check.rater("m1:9999;m9:1");
            CHECK.is("zone 1", 9999, () -> x.breakOf(0, 1, -1, true));
            CHECK.is("zone 9", 1, () -> x.breakOf(0, 9, -1, true));
            Check.amend(x, 0, "m1:0");
            CHECK.is("zone 1", 0, () -> x.breakOf(0, 1, -1, true));
            CHECK.is("zone 9", 1, () -> x.breakOf(0, 9, -1, true));
        });
        CHECK.test("4 d: 1000 and 9999", () -> limits("d", 2, 1000, 9999));
        CHECK.test("4 d: a divisor below 1000 is impossible", () -> {
            impossible("d1234", "d999");
            impossible("d1234", "d0");
            impossible("d1234", "d0999");
        });
        CHECK.test("4 f: 0 and 99", () -> limits("f", 3, 0, 99));
        CHECK.test("4 f: a fuel percentage above 99 is impossible", () -> {
            impossible("f5", "f100");
            impossible("f5", "f9999");
        });
        CHECK.test("4 s: 0 and 9999", () -> limits("s", 4, 0, 9999));
        CHECK.test("4 c: 0 and 9999", () -> limits("c", 5, 0, 9999));
    }

    private static void charges() {
        CHECK.test("4 a: an amount of 0 and of 9999", () -> {
            CHECK.is("0", 0, () -> Check.rater("a0:0").accessorial(0, 0, 0));
            CHECK.is("9999", 9999, () -> Check.rater("a0:9999").accessorial(0, 0, 0));
        });
        CHECK.test("4 a: a charge with * of 0 and of 99", () -> {
            CHECK.is("0", 0, () -> Check.rater("a0:0*").accessorial(0, 0, 0));
            CHECK.is("99", 99, () -> Check.rater("a0:99*").accessorial(0, 0, 0));
        });
        CHECK.test("4 a: a charge with * above 99 is impossible", () -> {
            impossible("a0:5", "a0:100*");
            impossible("a0:5", "a0:9999*?h1!2");
            impossible("a0:5", "a1:100*");
        });
        CHECK.test("4 a: a charge with % of 0 and of 50", () -> {
            CHECK.is("0", 0, () -> Check.rater("a0:0%").accessorial(0, 0, 0));
            CHECK.is("50", 50, () -> Check.rater("a0:50%").accessorial(0, 0, 0));
        });
        CHECK.test("4 a: a charge with % above 50 is impossible", () -> {
            impossible("a0:5", "a0:51%");
            impossible("a0:5", "a0:99%");
            impossible("a0:5", "a0:9999%?h1!2");
            impossible("a0:5", "a1:51%");
        });
    }

    private static void accessorials() {
        CHECK.test("4 a: it is set in place of what it was, of which nothing stays", () -> {
            FreightRater x = Check.rater("a0:50%?h1|h2!3", "a0:7");
            int[] due = {7, 0, 0, 0, -1};
            for (int what = 0; what < due.length; what++) {
                int asked = what;
                CHECK.is("what " + what, due[what], () -> x.accessorial(0, 0, asked));
            }
        });
        CHECK.test("4 a: it may exclude a lesser one, a greater one, itself, one that is missing", () -> {
            possible("a1:1", "a5:1!1", 1);
            possible("a9:1", "a5:1!9", 1);
            possible("c1", "a5:1!5", 1);
            possible("c1", "a5:1!6", 1);
        });
        CHECK.test("4 a: the accessorials 0 and 9", () -> {
            FreightRater x = Check.rater("a0:5;a9:6");
            CHECK.is("0", 5, () -> x.accessorial(0, 0, 0));
            CHECK.is("9", 6, () -> x.accessorial(0, 9, 0));
        });
        CHECK.test("4 r: the accessorials 0 and 9", () -> {
            CHECK.is("0", 512, () -> Check.rater("a0:5;a9:6;r0").version(0, 6));
            CHECK.is("9", 1, () -> Check.rater("a0:5;a9:6;r9").version(0, 6));
        });
        CHECK.test("4 r: an accessorial that is to be removed is missing", () -> {
            impossible("a5:1", "r4");
            impossible("a5:1", "r6");
            impossible("c1", "r0");
            impossible("a5:1;r5", "r5");
        });
    }

    private static void nothingElse() {
        CHECK.test("4 a statement leaves what earlier texts have set, and what it does not name", () -> {
            String[] texts = {"z1:0-9", "z2:5-9", "b1:5*6", "b2:7*8", "m1:3", "m2:4", "d2222", "f11", "s22", "c33", "a0:44*?h1!5", "a1:55"};
            FreightRater x = Check.rater(texts);
            int[] due = {0, 2, 2222, 11, 22, 33, 3, 2};
            for (int what = 0; what < due.length; what++) {
                int asked = what;
                CHECK.is("version(0, " + what + ")", due[what], () -> x.version(0, asked));
            }
            CHECK.is("the first zone", 1, () -> x.zoneOf(0, 4));
            CHECK.is("the second zone", 2, () -> x.zoneOf(0, 5));
            CHECK.is("the first break", 5, () -> x.breakOf(0, 1, 0, false));
            CHECK.is("the second break", 8, () -> x.breakOf(0, 2, 0, true));
            CHECK.is("the first minimum charge", 3, () -> x.breakOf(0, 1, -1, true));
            CHECK.is("the second minimum charge", 4, () -> x.breakOf(0, 2, -1, true));
            CHECK.is("the first accessorial", 44, () -> x.accessorial(0, 0, 0));
            CHECK.is("its condition", 1, () -> x.accessorial(0, 0, 3));
            CHECK.is("what it excludes", 5, () -> x.accessorial(0, 0, 4));
        });
        CHECK.test("4 a text amends its version alone", () -> {
            FreightRater x = Check.rater("z1:0-9;b1:5*6;m1:3;a0:4");
            x.makeVersion(5, -1);
            String before = View.version(x, 0);
            Check.amend(x, 1, "z2:0-9;b1:7*8;m1:9;d1000;f1;s1;c1;a0:5;a1:6");
            CHECK.reads("the other version", before, View.version(x, 0));
        });
    }

    private static void allOrNone() {
        String before = "z1:0-9;b1:5*5;b1:6*6;m1:7;a0:8;a1:9";
        String[] statements = {"z2:0-9", "b1:7*7", "b1:5*9", "b1:5*0", "m1:1", "d1000", "f1", "s1", "c1", "a2:2", "a0:3*?h1!1", "r0"};
        for (String statement : statements) {
            CHECK.test("4 either all statements are carried out or none: " + statement, () -> {
                FreightRater x = Check.rater(before);
                String view = View.version(x, 0);
                CHECK.fails("with an impossible one behind it", Check.UNSUPPORTED, () -> Check.amend(x, 0, statement + ";r9"));
                CHECK.reads("the version", view, View.version(x, 0));
                CHECK.is("the statement alone", 1, () -> Check.amend(x, 0, statement));
                CHECK.is("the version stays the same", 0, () -> View.version(x, 0).equals(view) ? 1 : 0);
            });
        }
    }

    private static void impossible() {
        CHECK.test("5 none was found yet", () -> CHECK.fails("impossible()", Check.MISSING, () -> Check.rater("c1").impossible()));
        CHECK.test("5 the first statement is number 0", () -> {
            FreightRater x = Check.rater();
            CHECK.fails("amend(0)", Check.UNSUPPORTED, () -> Check.amend(x, 0, "r0;c1"));
            CHECK.is("impossible()", 0, () -> x.impossible());
        });
        CHECK.test("5 the last statement of the longest list", () -> {
            FreightRater x = Check.rater();
            CHECK.fails("amend(0)", Check.UNSUPPORTED, () -> Check.amend(x, 0, EIGHTY.substring(0, 78) + "r0"));
            CHECK.is("impossible()", 26, () -> x.impossible());
        });
        CHECK.test("5 of several impossible statements the first one is kept", () -> {
            FreightRater x = Check.rater();
            CHECK.fails("amend(0)", Check.UNSUPPORTED, () -> Check.amend(x, 0, "c1;r0;f100;r1"));
            CHECK.is("impossible()", 1, () -> x.impossible());
        });
        CHECK.test("5 it stays until another one is found", () -> {
            FreightRater x = Check.rater();
            CHECK.fails("amend(0)", Check.UNSUPPORTED, () -> Check.amend(x, 0, "c1;c2;r0"));
            CHECK.fails("amend(0)", Check.UNSUPPORTED, () -> Check.amend(x, 0, "c1;r0"));
            CHECK.is("impossible()", 1, () -> x.impossible());
            CHECK.fails("amend(0)", Check.UNSUPPORTED, () -> Check.amend(x, 0, "c1;c2;c3;r0"));
            CHECK.is("impossible()", 3, () -> x.impossible());
        });
    }

    private static FreightRater oneImpossible() {
        FreightRater x = Check.rater("c1");
        CHECK.fails("amend(0)", Check.UNSUPPORTED, () -> Check.amend(x, 0, "c1;r0"));
        return x;
    }

    private static void impossibleStays() {
        CHECK.test("5 it stays after it was asked for", () -> {
            FreightRater x = oneImpossible();
            CHECK.is("impossible()", 1, () -> x.impossible());
            CHECK.is("impossible()", 1, () -> x.impossible());
        });
        CHECK.test("5 it stays after a text that is carried out", () -> {
            FreightRater x = oneImpossible();
            Check.amend(x, 0, "c1");
            CHECK.is("impossible()", 1, () -> x.impossible());
        });
        CHECK.test("5 it stays after a fault, and after a version that does not exist", () -> {
            FreightRater x = oneImpossible();
            Check.amend(x, 0, "c");
            CHECK.fails("amend(1)", Check.INDEX, () -> Check.amend(x, 1, "c1;c2;r0"));
            CHECK.is("impossible()", 1, () -> x.impossible());
        });
        CHECK.test("5 it is not undone", () -> {
            FreightRater x = oneImpossible();
            x.undo();
            CHECK.is("impossible()", 1, () -> x.impossible());
        });
        CHECK.test("5 it is neither saved nor restored", () -> {
            FreightRater x = Check.rater();
            x.saveSnapshot();
            CHECK.fails("amend(0)", Check.UNSUPPORTED, () -> Check.amend(x, 0, "c1;r0"));
            x.restoreSnapshot();
            CHECK.is("impossible()", 1, () -> x.impossible());
            x.saveSnapshot();
            CHECK.fails("amend(0)", Check.UNSUPPORTED, () -> Check.amend(x, 0, "r0"));
            x.restoreSnapshot();
            CHECK.is("impossible()", 0, () -> x.impossible());
        });
    }

    /** The statement is written like this. */
    private static void written(String statement, String due) {
        FreightRater x = Check.rater();
        CHECK.is("'" + statement + "' is read", 1, () -> Check.amend(x, 0, statement));
        CHECK.is("the length of '" + due + "'", due.length(), () -> x.write(0, due.charAt(1) - '0'));
        CHECK.reads("the paper", due, Check.paper(x, due.length()));
        CHECK.fails("paper behind it", Check.INDEX, () -> x.paper(due.length()));
    }

    private static void writing() {
        CHECK.test("33 the shortest text", () -> written("a0:0", "a0:0"));
        CHECK.test("33 the longest text", () -> {
            String longest = "a9:999?" + "-h7&h0|-h1&h2|-h3&h4|-h5&h6|-h7&h0|-h1&h2|-h3&h4|-h5&h6|-h7&h0|h0&h1&h2!9";
            CHECK.is("its length", 80, () -> longest.length());
            written(longest, longest);
        });
        CHECK.test("33 the accessorials 0 and 9", () -> {
            written("a0:7!9", "a0:7!9");
            written("a9:7!0", "a9:7!0");
        });
        CHECK.test("33 each kind of charge, with and without all else", () -> {
            for (String charge : new String[] {"5", "5*", "5%"}) {
                for (String condition : new String[] {"", "?h0", "?-w<5|z>1&n=3|-l=2"}) {
                    written("a1:" + charge + condition, "a1:" + charge + condition);
                    written("a1:" + charge + condition + "!1", "a1:" + charge + condition + "!1");
                }
            }
        });
        CHECK.test("33 version: there is no such one", () -> {
            FreightRater x = Check.rater("a1:5");
            for (int version : Check.outside(0, 0)) {
                CHECK.fails("write(" + version + ", 1)", Check.INDEX, () -> x.write(version, 1));
            }
        });
        CHECK.test("33 accessorial: there is no such one, or it is missing", () -> {
            FreightRater x = Check.rater("a0:5;a9:5;a3:5;r3");
            for (int a : new int[] {-1, 10, Integer.MIN_VALUE, Integer.MAX_VALUE, 1, 8, 3}) {
                CHECK.fails("write(0, " + a + ")", Check.MISSING, () -> x.write(0, a));
            }
        });
        CHECK.test("33 exceptions: the version comes first, then the accessorial", () -> {
            CHECK.fails("write(1, 10)", Check.INDEX, () -> Check.rater("a1:5").write(1, 10));
            CHECK.fails("write(0, 0) of a new object", Check.INDEX, () -> new FreightRater().write(0, 0));
        });
    }

    private static void writtenNumbers() {
        CHECK.test("33 needless zeros of the charge are left out", () -> {
            written("a1:0005", "a1:5");
            written("a1:0010*", "a1:10*");
            written("a1:0909", "a1:909");
        });
        CHECK.test("33 needless zeros of a test are left out", () -> {
            written("a1:5?w<0007", "a1:5?w<7");
            written("a1:5?-n>0070&l=0700", "a1:5?-n>70&l=700");
        });
        CHECK.test("33 a zero alone is not needless", () -> {
            written("a1:0000", "a1:0");
            written("a1:000%", "a1:0%");
            written("a1:0?w>0000", "a1:0?w>0");
        });
        CHECK.test("33 zeros inside and at the end are not needless", () -> {
            written("a1:1000", "a1:1000");
            written("a1:1?w=5050", "a1:1?w=5050");
        });
    }

    private static void paper() {
        CHECK.test("34 i: the first position and the last one", () -> {
            FreightRater x = Check.rater("a1:234");
            x.write(0, 1);
            CHECK.is("paper(0)", 'a', () -> x.paper(0));
            CHECK.is("paper(5)", '4', () -> x.paper(5));
        });
        CHECK.test("34 i: there is no such position", () -> {
            FreightRater x = Check.rater("a1:234");
            x.write(0, 1);
            for (int i : Check.outside(0, 5)) {
                CHECK.fails("paper(" + i + ")", Check.INDEX, () -> x.paper(i));
            }
        });
        CHECK.test("34 an empty paper has no position", () -> {
            FreightRater x = Check.rater("a1:234");
            for (int i : Check.outside(0, 0)) {
                CHECK.fails("paper(" + i + ")", Check.INDEX, () -> x.paper(i));
            }
            CHECK.fails("paper(0)", Check.INDEX, () -> x.paper(0));
        });
        CHECK.test("33 a shorter text leaves nothing of a longer one, nor the other way round", () -> {
            FreightRater x = Check.rater("a1:234;a2:5");
            x.write(0, 1);
            x.write(0, 2);
            CHECK.reads("the paper", "a2:5", Check.paper(x, 4));
            CHECK.fails("paper(4)", Check.INDEX, () -> x.paper(4));
            x.write(0, 1);
            CHECK.reads("the paper", "a1:234", Check.paper(x, 6));
        });
        CHECK.test("33 a refused call leaves the paper", () -> {
            FreightRater x = Check.rater("a1:234");
            x.write(0, 1);
            CHECK.fails("write(0, 2)", Check.MISSING, () -> x.write(0, 2));
            CHECK.fails("write(1, 1)", Check.INDEX, () -> x.write(1, 1));
            CHECK.reads("the paper", "a1:234", Check.paper(x, 6));
        });
        CHECK.test("33 the paper keeps what was written when the accessorial changes", () -> {
            FreightRater x = Check.rater("a1:234");
            x.write(0, 1);
            Check.amend(x, 0, "a1:9");
            CHECK.reads("the paper", "a1:234", Check.paper(x, 6));
            Check.amend(x, 0, "r1");
            CHECK.reads("the paper", "a1:234", Check.paper(x, 6));
        });
    }
}
