/** Section 1 of the document, THE VALLEY, sentence by sentence at its bounds; ahead of each test stand the words it holds. */
public final class TextEdgesTest {
    private static final Due DUE = new Due("TextEdgesTest");
    private static final int NONE = GoldByEar.NONE;
    private static final int UNKNOWN = GoldByEar.UNKNOWN;
    private static final String LEAST = "g1 1 0;";
    private static final String SEVEN = "g4 2 0;l0 0 0 1;l1 0 0 1;l2 0 0 1;l3 0 0 1;l0 1 0 1;l1 1 0 1;l2 1 0 1;";
    private static final String FOUR = "g1 1 0;h0 0 0;h0 0 1;h0 0 2;h0 0 0;";
    private static final String EVERY_CLAUSE = "g2 1 1;l0 0 11 9;h1 0 2;n99;";

    public static void main(String[] args) {
        lettersAtMost();
        theLastLetterCounts();
        widthsAndHeights();
        walls();
        groundFirst();
        groundOnce();
        lumpsAtMost();
        lumpsOnCells();
        pitchesAndSizes();
        hearersAtMost();
        hearersOnCells();
        ears();
        noise();
        noiseOnce();
        numbersOfThreeFigures();
        numbersOfFourFigures();
        numbersThatWouldRunOver();
        wordsOfOneLetter();
        blanks();
        onlyThirtyTwoIsBlank();
        blanksBetweenNumbers();
        figuresAndTheirNeighbours();
        everyLetterThatIsNoWord();
        theEnd();
        everyLetterSpoilt();
        theFirstLetter();
        theLeast();
        beyondAtTheXTheY();
        tooManyAtIt();
        takenAtTheY();
        emptyText();
        textIsEmptyThen();
        faultLeavesAll();
        valleyForgets();
        seedStays();
        faultOfTheLatest();
        DUE.end();
    }

    private static void fails(String text, int kind, int at) {
        GoldByEar x = new GoldByEar();
        DUE.is("valley() of '" + text + "'", Ground.tell(x, text), -10 - kind);
        DUE.is("fault() of '" + text + "'", x.fault(), at);
        DUE.is("no CELLS behind '" + text + "'", x.told(0) + x.told(1) + x.told(3) + x.told(4), 0);
    }

    private static GoldByEar stands(String text, int lumps) {
        GoldByEar x = new GoldByEar();
        DUE.is("valley() of '" + text + "'", Ground.tell(x, text), lumps);
        DUE.is("fault() of '" + text + "'", x.fault(), NONE);
        return x;
    }

    /** A text ended by some letters, so long as is told, with blanks between. */
    private static String padded(String head, String tail, int length) {
        return head + " ".repeat(length - head.length() - tail.length()) + tail;
    }

    // 'THE VALLEY is told in a text (230 letters at most)'
    private static void lettersAtMost() {
        GoldByEar x = new GoldByEar();
        for (int k = 1; k <= 230; k++) {
            DUE.is("feed the " + k + "th", x.feed(k <= 6 ? LEAST.charAt(k - 1) : ' '), k);
        }
        DUE.is("feed the 231st", x.feed(';'), GoldByEar.FULL);
        DUE.is("told(5)", x.told(5), 230);
        DUE.is("what was refused is not read", x.valley(), -11);
        DUE.is("it fails at the end, the text's length", x.fault(), 230);
        DUE.is("feed goes on behind it", x.feed('g'), 1);
    }

    private static void theLastLetterCounts() {
        DUE.is("the 230th letter ends a clause", stands(padded("g1 1 0;", "n7;", 230), 0).told(7), 7);
        fails(padded("g1 1 0;", "n7", 230), 1, 230);
        fails(padded("g1 1 0;", "x", 230), 1, 229);
        fails(padded("g1 1 0;", "g", 230), 3, 229);
        fails(padded("g1 1 0;n", "100", 230), 2, 227);
    }

    // 'CELLS X 0 .. W less 1, Y 0 .. H less 1; W, H 1 .. 6'
    private static void widthsAndHeights() {
        for (int w = 1; w <= 6; w++) {
            for (int h = 1; h <= 6; h++) {
                GoldByEar x = stands("g" + w + " " + h + " 0;l" + (w - 1) + " " + (h - 1) + " 0 1;", 1);
                DUE.is("W", x.told(0), w);
                DUE.is("H", x.told(1), h);
                DUE.is("the last CELL is Y times W and X", x.lump(0, 0), (h - 1) * w + w - 1);
                DUE.is("walk to the last CELL", x.walk(w * h - 1), w - 1 + h - 1);
                DUE.is("walk beyond it", x.walk(w * h), UNKNOWN);
            }
        }
        fails("g0 1 0;", 2, 1);
        fails("g7 1 0;", 2, 1);
        fails("g1 0 0;", 2, 3);
        fails("g1 7 0;", 2, 3);
        fails("g999 1 0;", 2, 1);
        fails("g0 0 2;", 2, 1);
    }

    // 'E 1 there is a WALL behind the last X, 0 none'
    private static void walls() {
        DUE.is("no WALL", stands("g1 1 0;", 0).told(2), 0);
        DUE.is("a WALL", stands("g1 1 1;", 0).told(2), 1);
        fails("g1 1 2;", 2, 5);
        fails("g1 1 10;", 2, 5);
    }

    // '(.. first, once)', 'another word first than 'g''
    private static void groundFirst() {
        fails("l0 0 0 1;", 1, 0);
        fails("h0 0 0;", 1, 0);
        fails("n5;", 1, 0);
        fails("  n5;g1 1 0;", 1, 2);
        fails(";g1 1 0;", 1, 0);
        fails("1 1 0;", 1, 0);
    }

    // ''g', 'n' again (at it)'
    private static void groundOnce() {
        fails(LEAST + LEAST, 3, 7);
        fails(LEAST + "  g", 3, 9);
        fails(LEAST + "l0 0 0 1;h0 0 0;n5;g1 1 0;", 3, 26);
        fails(LEAST + "g9 9 9", 3, 7);
    }

    // '7 LUMPS at most', 'an eighth 'l' (at it)'
    private static void lumpsAtMost() {
        GoldByEar x = stands(SEVEN, 7);
        DUE.is("LUMPS", x.told(3), 7);
        DUE.is("the seventh", x.lump(6, 0), 6);
        DUE.is("no eighth", x.lump(7, 0), UNKNOWN);
        fails(SEVEN + "l3 1 0 1;", 3, SEVEN.length());
        fails(SEVEN + " l", 3, SEVEN.length() + 1);
        fails(SEVEN + "l0 0 0 1;", 3, SEVEN.length());
        stands(SEVEN + "h0 0 0;n5;", 7);
        DUE.is("none at all", stands(LEAST, 0).told(3), 0);
    }

    // 'on a CELL without one', numbers 'from 0 on, as it comes'
    private static void lumpsOnCells() {
        GoldByEar x = stands("g3 2 0;l2 1 5 1;n7;l0 0 6 2;h0 0 0;l1 1 7 3;h2 1 1;", 3);
        DUE.is("lump 0", x.lump(0, 0), 5);
        DUE.is("lump 1", x.lump(1, 0), 0);
        DUE.is("lump 2", x.lump(2, 0), 4);
        DUE.is("lump 2 PITCH", x.lump(2, 1), 7);
        DUE.is("hearer 0", x.hearer(0, 0), 0);
        DUE.is("hearer 1", x.hearer(1, 0), 5);
        fails("g3 2 0;l3 0 0 1;", 2, 8);
        fails("g3 2 0;l0 2 0 1;", 2, 10);
        fails(LEAST + "l0 0 0 1;l0 0 0 1;", 4, 19);
    }

    // 'PITCH P 0 .. 11; SIZE S 1 .. 9'
    private static void pitchesAndSizes() {
        for (int p = 0; p <= 11; p++) {
            DUE.is("PITCH", stands(LEAST + "l0 0 " + p + " 1;", 1).lump(0, 1), p);
        }
        for (int s = 1; s <= 9; s++) {
            DUE.is("SIZE", stands(LEAST + "l0 0 0 " + s + ";", 1).lump(0, 2), s);
        }
        fails(LEAST + "l0 0 12 1;", 2, 12);
        fails(LEAST + "l0 0 99 1;", 2, 12);
        fails(LEAST + "l0 0 0 0;", 2, 14);
        fails(LEAST + "l0 0 0 10;", 2, 14);
        fails(LEAST + "l0 0 11 000;", 2, 15);
    }

    // '4 HEARERS at most', 'a fifth 'h' (at it)'
    private static void hearersAtMost() {
        GoldByEar x = stands(FOUR, 0);
        DUE.is("HEARERS", x.told(4), 4);
        DUE.is("the fourth", x.hearer(3, 0), 0);
        DUE.is("no fifth", x.hearer(4, 0), UNKNOWN);
        fails(FOUR + "h0 0 0;", 3, FOUR.length());
        fails(FOUR + "  h", 3, FOUR.length() + 2);
        fails(FOUR + "h9 9 9;", 3, FOUR.length());
        stands(FOUR + "l0 0 0 1;n5;", 1);
        DUE.is("none at all", stands(LEAST, 0).told(4), 0);
    }

    // 'stand on a CELL'
    private static void hearersOnCells() {
        GoldByEar x = stands("g6 6 0;l5 5 0 1;h5 5 0;h5 5 0;h0 0 0;", 1);
        DUE.is("on a LUMP's CELL", x.hearer(0, 0), 35);
        DUE.is("where another one stands", x.hearer(1, 0), 35);
        DUE.is("on CELL 0", x.hearer(2, 0), 0);
        fails("g6 5 0;h6 0 0;", 2, 8);
        fails("g6 5 0;h0 5 0;", 2, 10);
        fails("g6 5 0;h6 5 3;", 2, 8);
    }

    // 'EAR E 0 good, 1 .., 2 deaf'
    private static void ears() {
        for (int ear = 0; ear <= 2; ear++) {
            DUE.is("EAR", stands(LEAST + "h0 0 " + ear + ";", 0).hearer(0, 1), ear);
        }
        fails(LEAST + "h0 0 3;", 2, 12);
        fails(LEAST + "h0 0 10;", 2, 12);
    }

    // 'NOISE N 0 .. 99; 5 untold'
    private static void noise() {
        DUE.is("NOISE 0", stands(LEAST + "n0;", 0).told(7), 0);
        DUE.is("NOISE 99", stands(LEAST + "n99;", 0).told(7), 99);
        DUE.is("NOISE untold", stands(LEAST, 0).told(7), 5);
        fails(LEAST + "n100;", 2, 8);
        fails(LEAST + "n999;", 2, 8);
        GoldByEar x = stands(LEAST + "n40;", 0);
        Ground.tell(x, LEAST);
        DUE.is("NOISE untold in the next valley", x.told(7), 5);
    }

    // 'once'
    private static void noiseOnce() {
        fails(LEAST + "n5;n5;", 3, 10);
        fails(LEAST + "n0; n", 3, 11);
        fails(LEAST + "n7;l0 0 0 1;h0 0 0;n100;", 3, 26);
        GoldByEar x = stands(LEAST + "n7;", 0);
        DUE.is("'n' is told anew in the next text", Ground.tell(x, LEAST + "n8;"), 0);
        DUE.is("its NOISE", x.told(7), 8);
    }

    // 'NUMBERS have one to three figures'
    private static void numbersOfThreeFigures() {
        GoldByEar x = stands("g006 05 001;l005 04 011 009;h000 000 002;n099;", 1);
        DUE.is("W", x.told(0), 6);
        DUE.is("H", x.told(1), 5);
        DUE.is("E", x.told(2), 1);
        DUE.is("NOISE", x.told(7), 99);
        DUE.is("CELL", x.lump(0, 0), 29);
        DUE.is("PITCH", x.lump(0, 1), 11);
        DUE.is("SIZE", x.lump(0, 2), 9);
        DUE.is("EAR", x.hearer(0, 1), 2);
        fails(LEAST + "n;", 1, 8);
        fails(LEAST + "n ;", 1, 9);
    }

    // 'a NUMBER of four figures or more'
    private static void numbersOfFourFigures() {
        fails("g0001 1 0;", 2, 1);
        fails("g1 0001 0;", 2, 3);
        fails("g1 1 0000;", 2, 5);
        fails(LEAST + "l0000 0 0 1;", 2, 8);
        fails(LEAST + "l0 0000 0 1;", 2, 10);
        fails(LEAST + "l0 0 0000 1;", 2, 12);
        fails(LEAST + "l0 0 0 0001;", 2, 14);
        fails(LEAST + "h0000 0 0;", 2, 8);
        fails(LEAST + "h0 0000 0;", 2, 10);
        fails(LEAST + "h0 0 0000;", 2, 12);
        fails(LEAST + "n0005;", 2, 8);
        fails(LEAST + "n   0005", 2, 11);
        fails(LEAST + "n1000;", 2, 8);
    }

    /** Left over by 2 to the 32 or 64 these would be within their bounds. */
    private static void numbersThatWouldRunOver() {
        fails("g4294967297 1 0;", 2, 1);
        fails("g18446744073709551617 1 0;", 2, 1);
        fails(LEAST + "n4294967296;", 2, 8);
        fails(LEAST + "n" + "0".repeat(222), 2, 8);
        fails(LEAST + "n" + "9".repeat(222), 2, 8);
    }

    // 'a word is one letter'
    private static void wordsOfOneLetter() {
        fails("gg1 1 0;", 1, 1);
        fails("ground1 1 0;", 1, 1);
        fails(LEAST + "nn5;", 1, 8);
        fails(LEAST + "ln5;", 1, 8);
        fails("G1 1 0;", 1, 0);
        fails(LEAST + "N5;", 1, 7);
    }

    // 'blanks (32) may stand anywhere but within NUMBERS'
    private static void blanks() {
        GoldByEar x = stands("   g   5   4   1   ;   l   4   3   2   6   ;   h   4   3   1   ;   n   12   ;   ", 1);
        DUE.is("CELL", x.lump(0, 0), 19);
        DUE.is("NOISE", x.told(7), 12);
        stands("g5 4 1;l4 3 2 6;h4 3 1;n12;", 1);
        fails("g1 1 0;n1 2;", 1, 10);
        fails("g1 1 0;l0 0 1 1 1;", 1, 16);
        fails("g1 1 0 0;", 1, 7);
        fails("   x", 1, 3);
        fails("g1 1 0 ;   x", 1, 11);
    }

    private static void onlyThirtyTwoIsBlank() {
        for (int letter : new int[] {0, 9, 10, 11, 12, 13, 31, 33, 160}) {
            fails((char) letter + "g1 1 0;", 1, 0);
            fails("g1" + (char) letter + "1 0;", 1, 2);
            fails("g1 1 0;" + (char) letter, 1, 7);
        }
    }

    // 'two NUMBERS side by side need one'
    private static void blanksBetweenNumbers() {
        fails("g11 0;", 2, 1);
        fails("g1 10;", 2, 3);
        fails("g110;", 2, 1);
        fails("g2 1 0;l00 0 1;", 1, 14);
        fails("g2 1 0;l00 11;", 2, 11);
        fails(LEAST + "h00 0;", 1, 12);
    }

    private static void figuresAndTheirNeighbours() {
        fails("g/ 1 0;", 1, 1);
        fails("g: 1 0;", 1, 1);
        fails(LEAST + "n5:;", 1, 9);
        fails(LEAST + "n5/;", 1, 9);
        fails(LEAST + "n-5;", 1, 8);
        fails(LEAST + "n+5;", 1, 8);
        fails(LEAST + "n" + (char) 178 + ";", 1, 8);
        DUE.is("the figure 0", stands(LEAST + "n0;", 0).told(7), 0);
        DUE.is("the figure 9", stands(LEAST + "n9;", 0).told(7), 9);
    }

    // 'a letter that is no word'
    private static void everyLetterThatIsNoWord() {
        for (int letter = 0; letter <= 255; letter++) {
            boolean known = " lhng".indexOf(letter) >= 0;
            if (!known) {
                GoldByEar x = new GoldByEar();
                Ground.feed(x, LEAST);
                x.feed(letter);
                DUE.is("valley() with letter " + letter, x.valley(), -11);
                DUE.is("fault() with letter " + letter, x.fault(), 7);
            }
        }
    }

    // 'the end at the text's length'
    private static void theEnd() {
        for (int k = 0; k <= EVERY_CLAUSE.length(); k++) {
            String head = EVERY_CLAUSE.substring(0, k);
            if (head.isEmpty() || head.endsWith(";")) {
                stands(head, head.indexOf('l') < 0 ? 0 : 1);
                stands(head + "  ", head.indexOf('l') < 0 ? 0 : 1);
            } else {
                fails(head, 1, k);
                fails(head + "  ", 1, k + 2);
            }
        }
    }

    // 'at the first letter that has one', 'it cannot stand there'
    private static void everyLetterSpoilt() {
        for (int k = 0; k < EVERY_CLAUSE.length(); k++) {
            fails(EVERY_CLAUSE.substring(0, k) + "x" + EVERY_CLAUSE.substring(k + 1), 1, k);
            fails(EVERY_CLAUSE.substring(0, k) + "x", 1, k);
        }
    }

    private static void theFirstLetter() {
        fails("g9 9 9 x", 2, 1);
        fails(LEAST + "l0 0 0 1;l0 0 99 0;", 4, 19);
        fails(LEAST + "n5;n100;x", 3, 10);
        fails(LEAST + "l0 1 12 0", 2, 10);
        fails(LEAST + "x g", 1, 7);
        fails(LEAST + "l0 0 0 x;g", 1, 14);
    }

    // 'of these the least'
    private static void theLeast() {
        fails("g1 g1 1 0;", 1, 3);
        fails(LEAST + "n5 n5;", 1, 10);
        fails(LEAST + "n5;n n", 3, 10);
        fails(SEVEN.substring(0, SEVEN.length() - 1) + "l3 1 0 1;", 1, SEVEN.length() - 1);
        fails(FOUR.substring(0, FOUR.length() - 1) + "h0 0 0;", 1, FOUR.length() - 1);
        fails(LEAST + "l0 0 0 1;l0 0000 0 1;", 2, 19);
        fails("1234", 1, 0);
        fails("g1 1 0 1234;", 1, 7);
    }

    // 'a CELL that there is not (at the X, the Y that is beyond)'
    private static void beyondAtTheXTheY() {
        fails("g3 2 0;l3 1 0 1;", 2, 8);
        fails("g3 2 0;l2 2 0 1;", 2, 10);
        fails("g3 2 0;l3 2 0 1;", 2, 8);
        fails("g3 2 0;h3 1 0;", 2, 8);
        fails("g3 2 0;h2 2 0;", 2, 10);
        // As a number this X and Y would be the first lump's cell, or be within the cells.
        fails("g2 2 0;l0 1 0 1;l2 0 0 1;", 2, 17);
        fails("g2 3 0;l2 1 0 1;", 2, 8);
        stands("g2 3 0;l1 2 0 1;h1 2 0;", 1);
    }

    private static void tooManyAtIt() {
        fails(LEAST + "   n5;   n5;", 3, 16);
        fails("   g1 1 0;   g1 1 0;", 3, 13);
        fails(SEVEN + "   l3 1 0 1;", 3, SEVEN.length() + 3);
        fails(FOUR + "   h0 0 0;", 3, FOUR.length() + 3);
    }

    // '4 a CELL that has a LUMP (at the Y)'
    private static void takenAtTheY() {
        fails("g2 2 0;l1 0 0 1;l1   0 5 5;", 4, 21);
        fails("g2 2 0;l1 0 0 1;l01 00 5 5;", 4, 20);
        fails("g2 2 0;l1 0 0 1;l1 0", 4, 19);
        fails("g2 2 0;l1 0 0 1;l1 0x", 4, 19);
        fails("g2 2 0;l0 0 0 1;l1 0 0 1;l0 0 0 1;", 4, 28);
        stands("g2 2 0;l1 0 0 1;l0 1 0 1;", 2);
    }

    // 'An empty text: no CELLS.'
    private static void emptyText() {
        GoldByEar x = stands("", 0);
        DUE.is("W of a new one", x.told(0), 0);
        Ground.tell(x, Ground.FIVE_BY_FOUR);
        DUE.is("an empty text", x.valley(), 0);
        int[] told = {0, 0, 0, 0, 0, 0, 0, 5, 0, 0, 0, 0, 0, 0, 0};
        for (int what = 0; what < told.length; what++) {
            DUE.is("an empty text: told(" + what + ")", x.told(what), told[what]);
        }
        DUE.is("blanks alone are no clauses", Ground.tell(x, " ".repeat(230)), 0);
        DUE.is("blanks alone: no fault", x.fault(), NONE);
        DUE.is("blanks alone: no CELLS", x.told(0), 0);
    }

    // 'THE TEXT (it is empty then, with a FAULT, too)'
    private static void textIsEmptyThen() {
        GoldByEar x = new GoldByEar();
        Ground.tell(x, LEAST);
        DUE.is("told(5)", x.told(5), 0);
        DUE.is("feed", x.feed('g'), 1);
        DUE.is("only what came since is read", x.valley(), -11);
        DUE.is("at its end", x.fault(), 1);
        DUE.is("told(5) with a FAULT", x.told(5), 0);
        DUE.is("feed with a FAULT", x.feed('g'), 1);
        Ground.feed(x, " ".repeat(229));
        DUE.is("230 letters fit in anew", x.told(5), 230);
        x.valley();
        DUE.is("the end of these", x.fault(), 230);
    }

    // '-10 less the number of its FAULT (all else is as it was)'
    private static void faultLeavesAll() {
        String[] faulty = {"x", "g7 1 0;", "g1 1 0;g", "g1 1 0;l0 0 0 1;l0 0 0 1;", "g3 3 0;l0 0 1 1;h2 2 0;n50;l1 1 1 1;g"};
        int[] answers = {-11, -12, -13, -14, -13};
        for (int k = 0; k < faulty.length; k++) {
            GoldByEar x = lived();
            DUE.is("valley() of '" + faulty[k] + "'", Ground.tell(x, faulty[k]), answers[k]);
            // Both twins fail once more, alike, so that fault() is the same and all else can be compared.
            DUE.holds("all else is as it was behind '" + faulty[k] + "'", withoutFault(x).equals(withoutFault(lived())));
        }
    }

    private static GoldByEar lived() {
        GoldByEar x = Ground.of(Ground.FIVE_BY_FOUR);
        x.seed(9);
        x.blow(2);
        x.keep(1);
        x.walk(6);
        x.dig();
        x.stand(0, 7);
        x.noise(3);
        x.hear(3, 2, 10);
        x.write(1, 4);
        return x;
    }

    private static String withoutFault(GoldByEar x) {
        x.feed('?');
        x.valley();
        return Twins.all(x);
    }

    // 'no WIND, HOUR 0, nothing out, the DIGGER at CELL 0; no HEARINGS, no BOOK; IMAGES, what could be undone are gone'
    private static void valleyForgets() {
        for (String text : new String[] {Ground.FIVE_BY_FOUR, LEAST, "", SEVEN}) {
            GoldByEar x = lived();
            x.keep(0);
            x.blow(1);
            Ground.tell(x, text);
            DUE.is("no WIND", x.told(6), 0);
            DUE.is("HOUR 0", x.told(8), 0);
            DUE.is("the DIGGER at CELL 0", x.told(9), 0);
            DUE.is("nothing out", x.told(10), 0);
            DUE.is("no GOLD", x.told(11), 0);
            DUE.is("no HEARINGS", x.told(12), 0);
            DUE.is("no BOOK", x.told(13), 0);
            DUE.is("nothing can be undone", x.told(14), 0);
            DUE.is("undo()", x.undo(), GoldByEar.NOT);
            DUE.is("IMAGE 0 is gone", x.goBack(0), GoldByEar.NOT);
            DUE.is("IMAGE 1 is gone", x.goBack(1), GoldByEar.NOT);
            DUE.is("judge()", x.judge(), NONE);
        }
    }

    // 'THE SEED stays'
    private static void seedStays() {
        GoldByEar x = new GoldByEar();
        x.seed(2147483647);
        Ground.tell(x, LEAST);
        DUE.is("a valley", x.seed(123), 2147483647);
        Ground.tell(x, "x");
        DUE.is("a FAULT", x.seed(456), 123);
        x.valley();
        DUE.is("an empty text", x.seed(0), 456);
    }

    // 'The letter of the FAULT of the latest valley(); NONE.'
    private static void faultOfTheLatest() {
        GoldByEar x = new GoldByEar();
        DUE.is("none yet", x.fault(), NONE);
        Ground.tell(x, "g1 1 0;x");
        DUE.is("of this one", x.fault(), 7);
        Ground.feed(x, LEAST);
        DUE.is("still, while the next one is fed", x.fault(), 7);
        Ground.tell(x, "g");
        DUE.is("of the next one", x.fault(), 7);
        Ground.tell(x, "x");
        DUE.is("at letter 0", x.fault(), 0);
        x.valley();
        DUE.is("an empty text has none", x.fault(), NONE);
        Ground.tell(x, "g0");
        DUE.is("again one", x.fault(), 1);
        Ground.tell(x, LEAST);
        DUE.is("none again", x.fault(), NONE);
    }
}
