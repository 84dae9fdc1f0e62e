/** The boundary cases of THE TEXT and its FAULT: promises 2 to 5 and what "Terms" says of them, sentence by sentence. */
public final class TextBoundaryTest {
    private static final int NONE = ShapeFrames.NONE, OUTSIDE = ShapeFrames.OUTSIDE, NOT = ShapeFrames.NOT,
        FULL = ShapeFrames.FULL;
    private static final String NINE = "shape;shape;shape;shape;shape;shape;shape;shape;shape";
    private static final String TEN = NINE + ";shape";
    private static final Check check = new Check("TextBoundaryTest");

    public static void main(String[] args) {
        textOf200Letters();
        textLetters();
        erased();
        clausesAre24AtMost();
        programIsAllAsAtFirst();
        anEleventhNode();
        noToThreeExtents();
        numbers0To9OrLettersUToX();
        nodesToldAhead();
        ranks();
        numbersOf1Or2Digits();
        blanksBetween();
        wordsToTheLetter();
        firstTokenThatCannotStandThere();
        wordsOfMoreThanOneLetter();
        moreThanSixExtents();
        endTooSoon();
        earlierTextsStay();
        clausesInTheirOrder();
        nothingBehindThem();
        check.end();
    }

    private static String blanks(int howMany) {
        return " ".repeat(howMany);
    }

    private static void textOf200Letters() {
        check.says("THE TEXT is a row of letters, 200 at most");
        check.says("A letter (its number, 0 .. 255) more of THE TEXT: how many it has. OUTSIDE; FULL.");
        ShapeFrames x = new ShapeFrames();
        for (int i = 1; i <= 200; i++) {
            check.due("write(), the " + i + "th", x.write(i <= 193 ? ' ' : "shape 7".charAt(i - 194)), i);
        }
        check.due("write() of a 201st", x.write('8'), FULL);
        check.due("write() of a 201st that is none", x.write(256), OUTSIDE);
        check.due("write() of a 201st that is none", x.write(-1), OUTSIDE);
        check.due("count(5)", x.count(5), 200);
        check.due("fault() of a full text", x.fault(), NONE);
        check.due("program() of a full text", x.program(), 1);
        check.shape(x, 0, 7);
        check.due("write() behind program()", x.write('a'), 1);
        // The last letter is read: with it the text is whole, or at fault.
        check.fault("", blanks(195) + "shape", NONE);
        check.fault("", blanks(194) + "shape;", 200);
        check.fault("", blanks(194) + "shape.", 199);
        check.fault("", blanks(193) + "shape 9", NONE);
        check.fault("", blanks(192) + "shape 10", 198);
        check.fault("", "shape" + blanks(195), NONE);
        check.fault("", blanks(200), 200);
    }

    private static void textLetters() {
        check.says("A letter (its number, 0 .. 255) more of THE TEXT");
        int[] none = {-1, 256, 257, 1000, -256, Integer.MAX_VALUE, Integer.MIN_VALUE};
        for (int letter : none) {
            ShapeFrames x = new ShapeFrames();
            check.due("write(" + letter + ")", x.write(letter), OUTSIDE);
            check.due("count(5)", x.count(5), 0);
        }
        // Each letter by itself, behind a word, and where an extent is due.
        for (int letter = 0; letter <= 255; letter++) {
            boolean small = letter >= 'a' && letter <= 'z';
            boolean digit = letter >= '0' && letter <= '9';
            boolean stands = letter == ' ' || digit;
            check.fault("", "" + (char) letter, letter == ' ' ? 1 : 0);
            check.fault("", "shape" + (char) letter, stands ? NONE : letter == ';' ? 6 : small ? 0 : 5);
            stands |= letter >= 'u' && letter <= 'x';
            check.fault("", "shape " + (char) letter, stands ? NONE : letter == ';' ? 7 : 6);
        }
    }

    private static void erased() {
        check.says("THE TEXT is empty: how many letters it had.");
        ShapeFrames x = new ShapeFrames();
        check.due("erase() of none", x.erase(), 0);
        Check.write(x, "s");
        check.due("erase() of one", x.erase(), 1);
        check.due("erase() again", x.erase(), 0);
        Check.write(x, blanks(201));
        check.due("erase() of a full one", x.erase(), 200);
        check.due("fault() of an empty one", x.fault(), 0);
        check.due("program() of an empty one", x.program(), NOT);
        for (int i = 1; i <= 200; i++) {
            check.due("write() behind erase()", x.write(' '), i);
        }
        check.due("write() behind erase(), the 201st", x.write(' '), FULL);
    }

    private static void clausesAre24AtMost() {
        check.says("CLAUSES with ; between, 24 at most");
        check.says("THE TEXT's CLAUSES are done, and it is empty then: how many there were.");
        StringBuilder text = new StringBuilder("program");
        for (int clauses = 1; clauses <= 24; clauses++) {
            check.fault("", text.toString(), NONE);
            ShapeFrames x = new ShapeFrames();
            Check.write(x, text.toString());
            check.due("program() of " + clauses, x.program(), clauses);
            check.due("count(5) behind it", x.count(5), 0);
            if (clauses < 24) {
                text.append(";program");
            }
        }
        // What cannot stand there is the separator that asks for a 25th; 24 alone may have blanks behind.
        check.fault("", text + blanks(9), NONE);
        check.fault("", text + ";program", 191);
        check.fault("", text + "  ;shape", 193);
        check.fault("", text + ";", 191);
        check.fault("", text + ";;", 191);
        check.fault("", text + " u", 192);
        // The bound is that of one text, not of all of them.
        ShapeFrames x = new ShapeFrames();
        check.tell(x, text.toString());
        check.tell(x, "program;program;shape");
        check.due("count(0)", x.count(0), 1);
        // Between: neither ahead of the first, nor behind the last, nor two.
        check.fault("", ";shape", 0);
        check.fault("", "shape;", 6);
        check.fault("", "shape; ;shape", 7);
    }

    private static void programIsAllAsAtFirst() {
        check.says("program: all as at first");
        ShapeFrames x = check.told("shape u v w;shape x;ravel 0 1;join 2 2 1");
        check.tell(x, "program");
        for (int what = 0; what <= 6; what++) {
            check.due("count(" + what + ")", x.count(what), 0);
        }
        check.due("node(0, 0)", x.node(0, 0), ShapeFrames.UNKNOWN);
        check.due("letter(6), a ravel's before", x.letter(6), ShapeFrames.UNKNOWN);
        check.due("open()", x.open(), 0);
        check.fault("shape;shape", "program;turn 0 0", 13);
        check.fault("shape;shape", "turn 1 0;program;turn 1 0", 22);
        check.fault("shape", "program u", 8);
        check.fault("shape", "program 0", 8);
    }

    private static void anEleventhNode() {
        check.says("the others: a NODE more, an eleventh cannot stand there (at its word)");
        check.says("NODES are 0, 1 .., 10 at most (none at first)");
        String[] clauses = {"shape", "shape 1 u", "each 0 0 0", "join 0 0 0", "turn 0 0", "fold 0 0", "ravel 0 0", "form 0"};
        for (String clause : clauses) {
            check.fault("", NINE + ";" + clause, NONE);
            check.fault("", TEN + ";" + clause, TEN.length() + 1);
            check.fault(NINE, clause, NONE);
            check.fault(NINE, clause + ";" + clause, clause.length() + 1);
            check.fault(TEN, clause, 0);
            check.fault(TEN, " " + clause, 1);
            check.fault(TEN, "program;shape;" + clause, NONE);
        }
        // At its word, whatever follows it.
        check.fault(TEN, "turn", 0);
        check.fault(TEN, "turn 77 9", 0);
        check.fault(TEN, "program", NONE);
        ShapeFrames x = check.told(TEN);
        check.due("count(0)", x.count(0), 10);
        check.due("node(9, 0)", x.node(9, 0), 0);
        check.due("node(10, 0)", x.node(10, 0), ShapeFrames.UNKNOWN);
    }

    private static void noToThreeExtents() {
        check.says("E: no to three EXTENTS");
        String[] heads = {"shape", "form 0"};
        for (String head : heads) {
            check.fault("shape", head, NONE);
            check.fault("shape", head + " 1", NONE);
            check.fault("shape", head + " 1 u", NONE);
            check.fault("shape", head + " 1 u 2", NONE);
            check.fault("shape", head + " 1 u 2 3", head.length() + 7);
            check.fault("shape", head + " 1 u 2 x", head.length() + 7);
            check.fault("shape", head + " 1 u 2 3 4", head.length() + 7);
            check.fault("shape", head + " 1 u 2 30", head.length() + 7);
        }
        ShapeFrames x = check.told("shape;shape 0;shape 9 8;shape 7 6 5;form 1;form 1 0;form 1 0 4;form 1 0 4 3");
        check.shape(x, 0);
        check.shape(x, 1, 0);
        check.shape(x, 2, 9, 8);
        check.shape(x, 3, 7, 6, 5);
        check.shape(x, 4);
        check.shape(x, 5, 0);
        check.shape(x, 6, 0, 4);
        check.shape(x, 7, 0, 4, 3);
    }

    private static void numbers0To9OrLettersUToX() {
        check.says("each a number 0 to 9 or a letter u to x");
        for (int number = 0; number <= 99; number++) {
            check.fault("", "shape " + number, number <= 9 ? NONE : 6);
            check.fault("", "shape 1 2 " + number, number <= 9 ? NONE : 10);
            check.fault("shape", "form 0 " + number, number <= 9 ? NONE : 7);
            if (number <= 9) {
                check.shape(check.told("shape " + number), 0, number);
            }
        }
        for (char letter = 'a'; letter <= 'z'; letter++) {
            boolean told = letter >= 'u' && letter <= 'x';
            check.fault("", "shape " + letter, told ? NONE : 6);
            check.fault("shape", "form 0 1 " + letter, told ? NONE : 9);
            if (told) {
                ShapeFrames x = check.told("shape " + letter);
                check.shape(x, 0, 20000 + letter - 'u');
                check.due("count(6)", x.count(6), 1 << (letter - 'u'));
            }
        }
    }

    private static void nodesToldAhead() {
        check.says("M, N: NODES told ahead");
        StringBuilder earlier = new StringBuilder("shape");
        for (int told = 1; told <= 9; told++) {
            String[] heads = {"each ", "each 0 ", "join ", "join 0 ", "turn ", "fold ", "ravel ", "form "};
            for (String head : heads) {
                String rest = head.equals("form ") ? "" : head.equals("each ") || head.equals("join ") ? " 0 0" : " 0";
                check.fault(earlier.toString(), head + (told - 1) + rest, NONE);
                check.fault(earlier.toString(), head + told + rest, head.length());
                check.fault(earlier.toString(), head + 99 + rest, head.length());
                check.fault(earlier.toString(), head + "u" + rest, head.length());
                check.fault(earlier.toString(), head + "-1" + rest, head.length());
            }
            earlier.append(";shape");
        }
        String[] first = {"each 0 0 0", "join 0 0 0", "turn 0 0", "fold 0 0", "ravel 0 0", "form 0"};
        for (String clause : first) {
            check.fault("", clause, clause.indexOf('0'));
        }
    }

    private static void ranks() {
        check.says("R: a RANK, 0 to 3, or - and 1 to 3 (two TOKENS)");
        String[] heads = {"each 0 0 ", "join 0 0 ", "turn 0 ", "fold 0 ", "ravel 0 "};
        for (String head : heads) {
            int at = head.length();
            for (int rank = 0; rank <= 99; rank++) {
                check.fault("shape 2", head + rank, rank <= 3 ? NONE : at);
                check.fault("shape 2", head + "-" + rank, rank >= 1 && rank <= 3 ? NONE : at + 1);
                if (rank <= 3) {
                    check.due("node(1, 4)", check.told("shape 2;" + head + rank).node(1, 4), rank + 10);
                }
                if (rank >= 1 && rank <= 3) {
                    check.due("node(1, 4)", check.told("shape 2;" + head + "-" + rank).node(1, 4), 10 - rank);
                }
            }
            check.fault("shape 2", head + "- 3", NONE);
            check.fault("shape 2", head + "-   4", at + 4);
            check.fault("shape 2", head + "--1", at + 1);
            check.fault("shape 2", head + "+1", at);
            check.fault("shape 2", head + "u", at);
            check.fault("shape 2", head + "-u", at + 1);
            check.fault("shape 2", head + "-;", at + 1);
            check.fault("shape 2", head + ";", at);
        }
        check.fault("shape 2", "form 0 -1", 7);
    }

    private static void numbersOf1Or2Digits() {
        check.says("numbers of 1 or 2 digits");
        check.says("(a number out of its bounds, of more digits, also;");
        check.fault("", "shape 0 00 09", NONE);
        check.fault("", "shape 000", 6);
        check.fault("", "shape 0 001", 8);
        check.fault("", "shape 1 2 3 001", 12);
        check.fault("", "shape 0000000000000000000000000000000001", 6);
        check.fault("", "shape 4294967297", 6);
        check.fault("", "shape 99999999999999999999", 6);
        check.fault("shape", "turn 00 03", NONE);
        check.fault("shape", "turn 000 3", 5);
        check.fault("shape", "turn 0 003", 7);
        check.fault("shape", "turn 0 -01", NONE);
        check.fault("shape", "turn 0 -00", 8);
        check.fault("shape", "turn 0 -001", 8);
        check.fault("shape", "each 0 000 0", 7);
        check.fault("shape", "each 0 0 4294967296", 9);
        check.fault("shape", "form 000", 5);
        check.fault("shape", "form 00 09", NONE);
        ShapeFrames x = check.told("shape 09 00 u;turn 00 03;each 01 00 -02");
        check.shape(x, 0, 9, 0, 20000);
        check.due("node(2, 2)", x.node(2, 2), 1);
        check.due("node(1, 4)", x.node(1, 4), 13);
        check.due("node(2, 4)", x.node(2, 4), 8);
    }

    private static void blanksBetween() {
        check.says("small letters a .. z, numbers of 1 or 2 digits, blanks between");
        check.fault("", "   shape    3    u   ;   turn   0   -   1   ", NONE);
        // Tokens of unlike sorts are parted without one; two of the same sort are not.
        check.fault("", "shape3u4;turn0-1", NONE);
        check.fault("", "shape u3", NONE);
        check.fault("", "shape uv", 6);
        check.fault("", "shape 12", 6);
        check.fault("", "shapeu", 0);
        check.fault("shape", "turn 00", 7);
        check.fault("", "sha pe", 0);
        check.fault("", "shape\n3", 5);
        check.fault("", "shape\t3", 5);
        check.fault("", "shape" + (char) 160 + "3", 5);
        check.fault("", "SHAPE", 0);
        check.fault("", "shapE", 0);
        check.fault("", "shape U", 6);
        check.fault("", "shape `", 6);
        check.fault("", "shape {", 6);
        check.fault("", "shape /", 6);
        check.fault("", "shape :", 6);
    }

    private static void wordsToTheLetter() {
        check.says("each is one of: program. shape E E E. each M N R. join M N R. turn M R. fold M R. ravel M R. form M E E E.");
        String[] words = {"program", "shape", "each", "join", "turn", "fold", "ravel", "form"};
        String[] rests = {"", "", " 0 0 0", " 0 0 0", " 0 0", " 0 0", " 0 0", " 0"};
        for (int word = 0; word < words.length; word++) {
            String whole = words[word];
            check.fault("shape", whole + rests[word], NONE);
            for (int i = 0; i < whole.length(); i++) {
                String ahead = whole.substring(0, i);
                String behind = whole.substring(i + 1);
                char letter = whole.charAt(i);
                check.fault("shape", ahead + (char) (letter + 1) + behind + rests[word], 0);
                check.fault("shape", ahead + (char) (letter - 'a' + 'A') + behind + rests[word], 0);
                check.fault("shape", ahead + letter + letter + behind + rests[word], 0);
                check.fault("shape", ahead + behind + rests[word], 0);
            }
            check.fault("shape", whole + "a" + rests[word], 0);
        }
        check.says("(As written here, without points;");
        for (int word = 0; word < words.length; word++) {
            String clause = words[word] + rests[word];
            check.fault("shape", clause + ".", clause.length());
            check.fault("shape", clause + " .", clause.length() + 1);
            check.fault("shape", clause + ";.", clause.length() + 1);
            check.fault("shape", "." + clause, 0);
        }
    }

    private static void firstTokenThatCannotStandThere() {
        check.says("A FAULT is at the first TOKEN (a row of small letters, a row of digits, any other letter) that cannot stand there");
        check.says("The place of the FAULT (the letter with which the TOKEN begins, or the length); NONE.");
        check.fault("", "shape abc def", 6);
        check.fault("", "shape 123 abc", 6);
        check.fault("", "shape 1 2 3 456", 12);
        check.fault("", "shape ...", 6);
        check.fault("", "shape 1..", 7);
        check.fault("", "shape;zzz;yyy", 6);
        check.fault("", "shape 3;turn 0 abc;turn 9 0", 15);
        check.fault("", "0", 0);
        check.fault("", "u", 0);
        check.fault("", "shapeshape", 0);
        check.fault("", "shape shape", 6);
        check.fault("", "forms 0", 0);
        check.fault("", "for 0", 0);
        // Asking again answers the same, and what is written behind it does not move it.
        ShapeFrames x = new ShapeFrames();
        Check.write(x, "shape y");
        check.due("fault()", x.fault(), 6);
        check.due("fault() again", x.fault(), 6);
        Check.write(x, " ;shape");
        check.due("fault() with more behind", x.fault(), 6);
        x.erase();
        Check.write(x, "shape");
        check.due("fault() behind erase()", x.fault(), NONE);
        // But more letters may make another token of it.
        Check.write(x, "s");
        check.due("fault() of a longer word", x.fault(), 0);
    }

    private static void wordsOfMoreThanOneLetter() {
        check.says("a word of more than one letter where an EXTENT or the end of the CLAUSE is due;");
        check.fault("", "shape uu", 6);
        check.fault("", "shape u uu", 8);
        check.fault("", "shape u u uu", 10);
        check.fault("", "shape u u u uu", 12);
        check.fault("", "shape 1 program", 8);
        check.fault("", "program program", 8);
        check.fault("", "program shape", 8);
        check.fault("shape", "form 0 uv", 7);
        check.fault("shape", "form 0 1 2 3 shape", 13);
        check.fault("shape", "turn 0 0 turn", 9);
        check.fault("shape", "turn 0 0 u", 9);
        check.fault("shape", "each 0 0 0 uv", 11);
        check.fault("shape", "ravel 0 -1 uv", 11);
    }

    private static void moreThanSixExtents() {
        check.says("a NODE whose SHAPE would have more than 6 EXTENTS, at its word)");
        // Node 3 has six extents, node 2 has five.
        String six = "shape 1 2 3;ravel 0 0;join 1 1 0;ravel 2 0";
        String[] stand = {"turn 3 0", "fold 3 0", "each 3 3 0", "each 3 3 -3", "each 0 3 0", "join 3 3 1", "join 3 3 -3",
            "join 2 2 0", "join 2 3 1", "ravel 2 0", "ravel 3 1", "ravel 3 -3", "form 3"};
        for (String clause : stand) {
            check.fault(six, clause, NONE);
            check.fault("", six + ";" + clause, NONE);
        }
        String[] fall = {"ravel 3 0", "join 3 3 0", "join 2 3 0", "join 3 2 0", "join 0 3 0"};
        for (String clause : fall) {
            check.fault(six, clause, 0);
            check.fault(six, "  " + clause + ";zzz", 2);
            check.fault("", six + ";" + clause, six.length() + 1);
            check.fault("", six + ";" + clause + " 9", six.length() + 1);
        }
        check.shape(check.told(six), 3, 1, 2, 3, 1, 2, 1);
        // Without its arguments it has no shape yet: what is at fault in these is told.
        check.fault(six, "ravel 3", 7);
        check.fault(six, "ravel 4 0", 6);
        check.fault(six, "ravel 3 -0", 9);
        check.fault(six, "join 3 3", 8);
    }

    private static void endTooSoon() {
        check.says("or at the end, if it comes too soon");
        String[] whole = {"program", "shape", "shape u", "shape u 2", "shape u 2 x", "each 0 0 2", "each 0 0 -2",
            "join 0 0 2", "turn 0 3", "turn 0 -3", "fold 0 1", "ravel 0 0", "form 0", "form 0 1", "form 0 u 1"};
        for (String clause : whole) {
            check.fault("shape 1", clause, NONE);
            check.fault("shape 1", clause + "   ", NONE);
            check.fault("shape 1", clause + ";", clause.length() + 1);
            check.fault("shape 1", clause + "  ; ", clause.length() + 4);
        }
        String[] cut = {"", "  ", "each", "each 0", "each 0 0", "each 0 0 -", "join", "join 0", "join 0 0", "turn", "turn 0",
            "turn 0 -", "fold", "fold 0", "fold 0 -", "ravel", "ravel 0", "ravel 0 -", "form"};
        for (String clause : cut) {
            check.fault("shape 1", clause, clause.length());
            check.fault("shape 1", clause + "   ", clause.length() + 3);
            check.fault("shape 1", "shape;" + clause, clause.length() + 6);
            // A separator there is no end of the text, but a token that cannot stand there.
            check.fault("shape 1", clause + " ;", clause.length() + 1);
        }
    }

    private static void earlierTextsStay() {
        check.says("what earlier texts told stays as it was told");
        ShapeFrames x = check.told("shape u 3");
        x.give(0, 5);
        check.tell(x, "shape u;form 1 7");
        check.due("count(0)", x.count(0), 3);
        check.shape(x, 0, 7, 3);
        check.shape(x, 1, 7);
        check.tell(x, "each 0 2 1");
        check.due("node(3, 2)", x.node(3, 2), 0);
        check.due("node(3, 3)", x.node(3, 3), 2);
        check.shape(x, 0, 20000, 3);
        check.fails(x, 3, 2, 0, 3, 7);
        check.tell(x, "shape;shape;shape;shape;shape;shape");
        check.due("count(0)", x.count(0), 10);
        check.fails(x, 3, 2, 0, 3, 7);
    }

    private static void clausesInTheirOrder() {
        check.says("CLAUSES are done in their order.");
        check.shape(check.told("shape 1;program;shape 2 3"), 0, 2, 3);
        check.due("count(0)", check.told("shape 1;program").count(0), 0);
        check.due("count(0)", check.told("program;shape 1").count(0), 1);
        check.due("count(0)", check.told(TEN + ";program;" + NINE).count(0), 9);
        check.due("count(6)", check.told("shape u;program;shape x").count(6), 8);
        ShapeFrames x = check.told("shape 1;shape 2 3;turn 1 0;program;shape 4;turn 0 0");
        check.shape(x, 1, 4);
        check.due("node(2, 0)", x.node(2, 0), ShapeFrames.UNKNOWN);
    }

    private static void nothingBehindThem() {
        check.says("Behind them no LETTER is GIVEN, nothing is SEEN, nothing is kept or can be undone; ROWS are all missing.");
        ShapeFrames x = check.told("shape u");
        for (int letter = 0; letter < 4; letter++) {
            x.give(letter, 9 - letter);
        }
        x.keep(0);
        x.keep(1);
        for (int i = 0; i < 6; i++) {
            x.seen(1, 1, 2);
        }
        x.row(0, 0, 10);
        x.row(1, 1, 10);
        x.row(2, 0, 0);
        // A text that cannot be done takes nothing away.
        Check.write(x, "shape y");
        check.says("NOT: it has a FAULT.");
        check.due("program()", x.program(), NOT);
        check.due("count(1)", x.count(1), 15);
        check.due("count(2)", x.count(2), 6);
        check.due("count(3)", x.count(3), 20);
        check.due("count(4)", x.count(4), 4);
        check.due("count(5)", x.count(5), 7);
        check.due("drop(2)", x.drop(2), 0);
        check.due("row(2, 0, 0)", x.row(2, 0, 0), 0);
        check.says("nothing is kept or can be undone; ROWS are all missing.");
        x.erase();
        check.tell(x, "shape v");
        for (int what = 1; what <= 5; what++) {
            check.due("count(" + what + ")", x.count(what), 0);
        }
        for (int k = 0; k < 2; k++) {
            check.due("back(" + k + ")", x.back(k), NOT);
        }
        check.due("undo()", x.undo(), NOT);
        for (int letter = 0; letter < 4; letter++) {
            check.due("free(" + letter + ")", x.free(letter), NOT);
            check.due("letter(" + letter + ")", x.letter(letter), 20000 + letter);
        }
        check.due("kinds()", x.kinds(), 62);
        for (int row = 0; row < 3; row++) {
            check.due("drop(" + row + ")", x.drop(row), ShapeFrames.NULL);
        }
    }
}
