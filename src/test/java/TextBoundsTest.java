/** The bounds of the tape and of the text: each sentence of the document that names one, at it, below it, above it. */
public final class TextBoundsTest {
    private static final Checks CHECKS = new Checks();
    private static final String ROOM = "room a lane 0 bears 1;";
    private static final String GUEST = "guest g room a noise 1 from 2 to 3;";
    private static final String[] OWN_WORDS = {"lanes", "rows", "slope", "steep", "lies", "snow", "wall", "left", "right",
        "room", "lane", "bears", "rate", "guest", "noise", "from", "to", "tips", "falls", "wind", "draw", "or", "and",
        "not", "below", "hour", "row"};

    public static void main(String[] args) {
        feedBounds();
        endBounds();
        wholeTape();
        passLeavesAndClears();
        nothingOfOlderPasses();
        everyByteAlone();
        wordLengths();
        numberLengths();
        lettersBehindNumbers();
        blanksPartOrNot();
        ownWordsAreNoNames();
        lanesAndRows();
        lanesAndRowsOnceAndAhead();
        slopes();
        lies();
        walls();
        allCells();
        rooms();
        guests();
        plainNumbers();
        onceEach();
        unitsInOne();
        within();
        grammarOfLines();
        grammarOfFormulas();
        firstFault();
        namesAndRooms();
        faultOfTheLatest();
        CHECKS.finish();
    }

    private static void feedBounds() {
        CHECKS.sentence("2: NONE, and nothing comes, if there would be more than 1,600");
        AvalancheInn inn = new AvalancheInn();
        for (int i = 1; i <= 80; i++) {
            CHECKS.due("feed " + i, inn.feed(0x20202020, 0x20202020, 0x20202020, 0x20202020, 0x20202020), 20 * i);
        }
        CHECKS.due("feed 81", inn.feed(0, 0, 0, 0, 0), -1);
        CHECKS.due("bytes", inn.about(13), 1600);
        CHECKS.due("nothing came: all are blanks", inn.pass(), 0);
        CHECKS.due("the tape is empty then", inn.about(13), 0);
        for (int cut = 1579; cut <= 1581; cut++) {
            AvalancheInn full = new AvalancheInn();
            Texts.lay(full, " ".repeat(1600));
            CHECKS.due("end", full.end(cut), cut);
            boolean fits = cut <= 1580;
            int got = full.feed(0x23232323, 0x23232323, 0x23232323, 0x23232323, 0x23232323);
            CHECKS.due("feed behind " + cut, got, fits ? cut + 20 : -1);
            CHECKS.due("bytes behind " + cut, full.about(13), fits ? cut + 20 : cut);
            CHECKS.due("pass behind " + cut, full.pass(), fits ? -1 : 0);
            CHECKS.due("place behind " + cut, full.fault(1), fits ? cut : -1);
        }
        CHECKS.leaves("feed with a full tape", TextBoundsTest::full, x -> x.feed(1, 2, 3, 4, 5), -1);
        CHECKS.sentence("2: of each number the highest first");
        AvalancheInn order = new AvalancheInn();
        order.feed(0x6c696573, 0x20312032, 0x20736e6f, 0x77203330, 0x3b202020);
        CHECKS.due("pass", order.pass(), 0);
        CHECKS.due("lies 1 2 snow 30;", order.cell(1, 2, 0), 30);
        AvalancheInn high = new AvalancheInn();
        high.feed(0x2020203b, 0, 0, 0, 0);
        CHECKS.due("pass", high.pass(), -1);
        CHECKS.due("the sign is the last of four", high.fault(1), 3);
        high.end(0);
        high.feed(0x20202020, 0x20202020, 0x20202020, 0x20202020, 0xff202020);
        CHECKS.due("pass", high.pass(), -1);
        CHECKS.due("255 is no sign", high.fault(0), 1);
        CHECKS.due("the highest of the last", high.fault(1), 16);
    }

    private static AvalancheInn full() {
        AvalancheInn inn = Checks.lived();
        Texts.lay(inn, " ".repeat(1600));
        return inn;
    }

    private static void endBounds() {
        CHECKS.sentence("3: NONE, doing nothing, if it has not so many, or n is below 0");
        int has = Checks.lived().about(13);
        for (int n : new int[] {-1, -2, Integer.MIN_VALUE, has + 1, has + 2, 1600, 1601, Integer.MAX_VALUE}) {
            CHECKS.leaves("end(" + n + ")", x -> x.end(n), -1);
        }
        CHECKS.leaves("end of all", x -> x.end(has), has);
        AvalancheInn inn = new AvalancheInn();
        CHECKS.due("end(0) of none", inn.end(0), 0);
        CHECKS.due("end(1) of none", inn.end(1), -1);
        inn.feed(0x66616c6c, 0x7320373b, 0x23232323, 0x20202020, 0x20202020);
        CHECKS.due("end(20)", inn.end(20), 20);
        CHECKS.due("end(9)", inn.end(9), 9);
        CHECKS.due("end(10) then", inn.end(10), -1);
        CHECKS.due("bytes", inn.about(13), 9);
        CHECKS.due("its first nine", inn.pass(), -1);
        CHECKS.due("place", inn.fault(1), 8);
        CHECKS.due("end(8)", inn.end(8), 8);
        CHECKS.due("its first eight", inn.pass(), 0);
        CHECKS.due("falls", inn.about(16), 7);
        CHECKS.due("end(1) of an empty tape", inn.end(1), -1);
    }

    private static void wholeTape() {
        CHECKS.sentence("Terms: a text of at most 1,600 bytes");
        String end = "draw 321;";
        for (int length = 1599; length <= 1600; length++) {
            AvalancheInn inn = CHECKS.fine(" ".repeat(length - end.length()) + end);
            CHECKS.due("seed", inn.about(8), 321);
            CHECKS.fault(" ".repeat(length - end.length()) + "draw 3217", 4, length - 4);
            CHECKS.fault(" ".repeat(length - 1) + "#", 1, length - 1);
            CHECKS.fault(" ".repeat(length - 8) + "draw 321", 2, length);
            CHECKS.fault(" ".repeat(length - 4) + "draw", 2, length);
        }
        CHECKS.sentence("Terms: a text (empty at first)");
        AvalancheInn empty = new AvalancheInn();
        CHECKS.due("pass() of nothing", empty.pass(), 0);
        CHECKS.due("no fault", empty.fault(0), 0);
        CHECKS.due("no place", empty.fault(1), -1);
        CHECKS.fine("");
        CHECKS.fine(" ");
        CHECKS.fine("\n");
        CHECKS.fine("\n \n");
    }

    private static void passLeavesAndClears() {
        CHECKS.sentence("4: all as told, hour 0, no ACTS are kept, nothing is SEEN, nothing lies there, BOXES are empty");
        AvalancheInn inn = Checks.lived();
        CHECKS.due("pass() of what lies on the tape", inn.pass(), 1);
        int[] about = {1, 0, 4, 3, 0, 0, 0, 0, 0, 0, 0, 0, 5, 0, 0, 0, 3, 0};
        for (int what = 0; what < about.length; what++) {
            CHECKS.due("about(" + what + ")", inn.about(what), about[what]);
        }
        for (int box = 0; box < 3; box++) {
            CHECKS.due("back(" + box + ")", inn.back(box), -1);
        }
        CHECKS.due("undo()", inn.undo(), false);
        CHECKS.due("redo()", inn.redo(), false);
        CHECKS.due("lies(0)", inn.lies(0), -2);
        CHECKS.due("untell(0)", inn.untell(0), false);
        CHECKS.due("fits(5)", inn.fits(5), 31);
        for (int lane = 0; lane < 4; lane++) {
            for (int row = 0; row < 3; row++) {
                CHECKS.due("snow", inn.cell(lane, row, 0), 0);
                CHECKS.due("wall", inn.cell(lane, row, 1), 0);
                CHECKS.due("steep", inn.cell(lane, row, 2), 3);
            }
        }
        // the usual formula holds again: 5 hours of 3 are 15, and 15 * 3 - 40 is above 0
        CHECKS.due("next()", inn.next(), 5);
        CHECKS.sentence("4: the same text again is all as told");
        AvalancheInn again = Checks.lived();
        AvalancheInn fresh = new AvalancheInn();
        fresh.later(5);
        Texts.tell(fresh, Checks.INN);
        CHECKS.due("pass()", Texts.tell(again, Checks.INN), 2);
        CHECKS.same("pass()", View.whole(again), View.whole(fresh));
        CHECKS.sentence("4: how many ROOMS");
        StringBuilder text = new StringBuilder();
        for (int rooms = 0; rooms <= 5; rooms++) {
            CHECKS.due("pass() of " + text, Texts.tell(new AvalancheInn(), text.toString()), rooms);
            text.append("room ").append((char) ('a' + rooms)).append(" lane 0 bears 1;");
        }
        CHECKS.sentence("4: NONE: a FAULT (all stays)");
        CHECKS.fault("room gable lane 5 bears 1;", 4, 16);
        CHECKS.fault(Checks.INN + "x", 2, Checks.INN.length());
    }

    private static void nothingOfOlderPasses() {
        CHECKS.sentence("4: the TAPE is the PASS: nothing stays of those before, nor of one with a FAULT");
        String full = "lanes 6;rows 5;slope 4 steep 9;lies 0 0 snow 9;lies 3 2 snow 9;wall 0 0 left;wall 3 2 right;"
                + "room a lane 3 bears 0 rate 20;guest g room a noise 30 from 0 to 47;tips 0;falls 9;wind 100;draw 999;";
        String[] plain = {"", "tips snow = 2;", ROOM + GUEST, "lies 1 1 snow 1;wall 1 1 left;", "rows 5;lanes 6;"};
        for (String text : plain) {
            String want = View.whole(CHECKS.fine(text));
            AvalancheInn inn = CHECKS.fine(full);
            CHECKS.due("pass()", Texts.tell(inn, full), 1);
            Texts.tell(inn, text);
            CHECKS.same(text + " behind two others", View.whole(inn), want);
            AvalancheInn wrong = CHECKS.fine("");
            CHECKS.due("pass()", Texts.tell(wrong, full + "x"), -1);
            Texts.tell(wrong, text);
            CHECKS.same(text + " behind a FAULT", View.whole(wrong), want);
        }
        AvalancheInn formulas = CHECKS.fine("tips 0;lies 0 0 snow 1;");
        for (int i = 1; i <= 6; i++) {
            Texts.tell(formulas, "lies 0 0 snow " + i + ";tips snow = " + i + ";");
            CHECKS.due("the formula told last", formulas.cell(0, 0, 3), 1);
            CHECKS.due("its units", formulas.about(14), 2);
        }
        Texts.tell(formulas, "lies 0 0 snow 3;");
        CHECKS.due("none told: 3 * 3 - 40", formulas.cell(0, 0, 3), 0);
        CHECKS.due("no units", formulas.about(14), 0);
    }

    private static void everyByteAlone() {
        CHECKS.sentence("Terms: TOKENS: words (a .. z), N, signs; blanks (32, 10)");
        String signs = ";()<>=+-*/%";
        for (int i = 0; i < 256; i++) {
            char sign = (char) i;
            boolean token = sign >= 'a' && sign <= 'z' || sign >= '0' && sign <= '9' || signs.indexOf(sign) >= 0;
            AvalancheInn inn = new AvalancheInn();
            boolean blank = i == 32 || i == 10;
            CHECKS.due("pass() of byte " + i, Texts.tell(inn, " " + sign), blank ? 0 : -1);
            CHECKS.due("fault(0) of byte " + i, inn.fault(0), blank ? 0 : token ? 2 : 1);
            CHECKS.due("fault(1) of byte " + i, inn.fault(1), blank ? -1 : 1);
            inn.end(0);
            boolean badNumber = sign == '0' || sign >= '7' && sign <= '9';
            CHECKS.due("within a line, byte " + i, Texts.tell(inn, "lanes " + sign + " 2;"), blank ? 0 : -1);
            CHECKS.due("its fault", inn.fault(0), blank ? 0 : badNumber ? 4 : token ? 2 : 1);
        }
        for (int i : new int[] {0, 9, 11, 13, 31, 33, 58, 64, 65, 90, 91, 95, 96, 123, 127, 128, 160, 255}) {
            CHECKS.fault("falls 1;" + (char) i, 1, 8);
        }
    }

    private static void wordLengths() {
        CHECKS.sentence("Terms: words (a .. z, 8 at most)");
        for (int length = 1; length <= 8; length++) {
            String name = "z".repeat(length);
            AvalancheInn inn = CHECKS.fine("room " + name + " lane 0 bears 1;guest " + name + " room " + name
                    + " noise 1 from 0 to 0;");
            CHECKS.due("its guest", inn.guest(0, 0), 0);
        }
        for (int length = 9; length <= 12; length++) {
            CHECKS.fault("room " + "z".repeat(length) + " lane 0 bears 1;", 1, 5);
            CHECKS.fault("a".repeat(length), 1, 0);
        }
        CHECKS.fault("lanesrow", 2, 0);
        CHECKS.fault("lanesrows", 1, 0);
        CHECKS.fault("room a lane 0 bearsbear 1;", 1, 14);
        CHECKS.fault("room a lane 0 bearsbea 1;", 2, 14);
        CHECKS.sentence("Terms: names differ by every letter");
        CHECKS.fine("room abcdefgh lane 0 bears 1;room abcdefgg lane 0 bears 1;room bbcdefgh lane 0 bears 1;"
                + "room abcdefg lane 0 bears 1;room zzzzzzzz lane 0 bears 1;");
        CHECKS.fault("room zzzzzzzz lane 0 bears 1;room zzzzzzzz lane 0 bears 1;", 3, 34);
        CHECKS.fine("room a lane 0 bears 1;room aa lane 0 bears 1;room aaa lane 0 bears 1;");
    }

    private static void numberLengths() {
        CHECKS.sentence("Terms: N (1 to 4 digits)");
        String[] four = {"4", "04", "004", "0004"};
        for (String number : four) {
            CHECKS.due("lanes", CHECKS.fine("lanes " + number + ";").about(2), 4);
        }
        CHECKS.fault("lanes 00004;", 1, 6);
        CHECKS.fault("lanes 000004;", 1, 6);
        CHECKS.fault("lanes 9999;", 4, 6);
        CHECKS.fault("lanes 10000;", 1, 6);
        CHECKS.fine("tips 9999;");
        CHECKS.fine("tips 0000;");
        CHECKS.fault("tips 10000;", 1, 5);
        CHECKS.fault("12345", 1, 0);
        CHECKS.fault("1234", 2, 0);
    }

    private static void lettersBehindNumbers() {
        CHECKS.sentence("Terms: no letter directly behind an N");
        CHECKS.fault("lanes 4x;", 1, 6);
        CHECKS.fault("lanes 0004x;", 1, 6);
        CHECKS.fault("lanes 4a;", 1, 6);
        CHECKS.fault("lanes 4z;", 1, 6);
        CHECKS.fault("tips 5snow;", 1, 5);
        CHECKS.fault("tips 1and 2;", 1, 5);
        CHECKS.fault("slope 0steep 1;", 1, 6);
        CHECKS.fine("tips 1 and 2;");
        CHECKS.fine("tips 1\nand 2;");
        CHECKS.fine("tips(1)and 2;");
        CHECKS.fine("tips 5+snow;");
        CHECKS.fine("tips snow<5;");
        CHECKS.fault("tips snow5;", 2, 9);
        CHECKS.fault("lanes 4A;", 1, 7);
        CHECKS.fault("lanes 4#;", 1, 7);
        CHECKS.fault("lanes 7#;", 4, 6);
    }

    private static void blanksPartOrNot() {
        CHECKS.sentence("Terms: blanks part them or not; each is as long as can be");
        AvalancheInn inn = CHECKS.fine("lanes3;rows2;slope 1 steep7;lies 2 1 snow9;wall 2 1 left;"
                + "room a lane2 bears9 rate8;guest g room a noise7 from6 to9;tips(snow)*steep>1;falls2;wind3;draw4;");
        CHECKS.due("lanes", inn.about(2), 3);
        CHECKS.due("rate", inn.room(0, 2), 8);
        CHECKS.due("to", inn.guest(0, 3), 9);
        AvalancheInn wide = CHECKS.fine("\n lanes \n 3 \n;\n\n rows 2 ; tips ( snow ) * steep > 1 ;\n");
        CHECKS.due("units", wide.about(14), 4);
        CHECKS.fault("lanes 1 2;", 2, 8);
        CHECKS.fault("la nes 1;", 2, 0);
        CHECKS.fault("lanesx 1;", 2, 0);
        CHECKS.fault("falls1falls 2;", 1, 5);
        CHECKS.fault("tips notsnow;", 2, 5);
        CHECKS.fine("tips not(snow);");
    }

    private static void ownWordsAreNoNames() {
        CHECKS.sentence("Terms: words that stand for themselves here are no NAMES");
        for (String word : OWN_WORDS) {
            CHECKS.fault("room " + word + " lane 0 bears 1;", 2, 5);
            CHECKS.fault(ROOM + "guest " + word + " room a noise 1 from 0 to 0;", 2, ROOM.length() + 6);
            CHECKS.fault(ROOM + "guest g room " + word + " noise 1 from 0 to 0;", 2, ROOM.length() + 13);
            CHECKS.fine("room " + word + "z lane 0 bears 1;");
            CHECKS.fine("room z" + word + " lane 0 bears 1;");
        }
        String[] others = {"pass", "line", "e", "both", "one", "sum", "term", "unit", "lan", "ro", "walls", "n", "name"};
        for (String word : others) {
            CHECKS.fine("room " + word + " lane 0 bears 1;guest " + word + " room " + word + " noise 1 from 0 to 0;");
        }
    }

    private static void lanesAndRows() {
        CHECKS.sentence("Terms: lanes (1 .. 6; 4 if not told), rows (1 .. 5; 3)");
        for (int lanes = 1; lanes <= 6; lanes++) {
            AvalancheInn inn = CHECKS.fine("lanes " + lanes + ";");
            CHECKS.due("lanes", inn.about(2), lanes);
            CHECKS.due("rows", inn.about(3), 3);
            CHECKS.due("the last lane", inn.cell(lanes - 1, 0, 0), 0);
            CHECKS.due("beyond", inn.cell(lanes, 0, 0), -1);
        }
        for (int rows = 1; rows <= 5; rows++) {
            AvalancheInn inn = CHECKS.fine("rows " + rows + ";");
            CHECKS.due("rows", inn.about(3), rows);
            CHECKS.due("lanes", inn.about(2), 4);
            CHECKS.due("the last row", inn.cell(0, rows - 1, 2), 3);
            CHECKS.due("beyond", inn.cell(0, rows, 2), -1);
        }
        for (int other : new int[] {0, 7, 8, 10, 9999}) {
            CHECKS.fault("lanes " + other + ";", 4, 6);
        }
        for (int other : new int[] {0, 6, 7, 10, 9999}) {
            CHECKS.fault("rows " + other + ";", 4, 5);
        }
    }

    private static void lanesAndRowsOnceAndAhead() {
        CHECKS.sentence("Terms: lanes, rows once each; a second time: at the line's first word");
        CHECKS.fault("lanes 4; lanes 4;", 2, 9);
        CHECKS.fault("rows 3; rows 3;", 2, 8);
        CHECKS.fault("lanes 4;rows 3;lanes 4;", 2, 15);
        CHECKS.fault("lanes 4;rows 3;rows", 2, 15);
        CHECKS.fine("lanes 1;rows 1;");
        CHECKS.fine("rows 1;lanes 1;");
        CHECKS.sentence("Terms: ahead of any slope, lies, wall, room; too late: at the line's first word");
        String[] sized = {"slope 0 steep 1;", "lies 0 0 snow 1;", "wall 0 0 left;", ROOM};
        for (String line : sized) {
            CHECKS.fault(line + "lanes 4;", 2, line.length());
            CHECKS.fault(line + "rows 3;", 2, line.length());
            CHECKS.fault("rows 3;" + line + " lanes 4;", 2, line.length() + 8);
            CHECKS.fine("lanes 4;rows 3;" + line);
            CHECKS.fine("falls 1;rows 3;wind 1;lanes 4;" + line);
        }
        CHECKS.fault(ROOM + GUEST + "lanes 4;", 2, ROOM.length() + GUEST.length());
        CHECKS.fine("tips snow;falls 1;wind 1;draw 1;lanes 2;rows 2;");
        CHECKS.fine("lanes 2;tips snow;falls 1;wind 1;draw 1;rows 2;");
    }

    private static void slopes() {
        CHECKS.sentence("Terms: a row (slope: each once; its number from the top, below rows; steep 0 .. 9, 3 if not told)");
        for (int rows = 1; rows <= 5; rows++) {
            String text = "rows " + rows + ";";
            AvalancheInn inn = CHECKS.fine(text + "slope " + (rows - 1) + " steep 8;");
            for (int row = 0; row < rows; row++) {
                CHECKS.due("steep " + row, inn.cell(3, row, 2), row == rows - 1 ? 8 : 3);
            }
            CHECKS.fault(text + "slope " + rows + " steep 8;", 4, 13);
        }
        CHECKS.fine("slope 2 steep 1;");
        CHECKS.fault("slope 3 steep 1;", 4, 6);
        for (int steep = 0; steep <= 9; steep++) {
            CHECKS.due("steep", CHECKS.fine("slope 0 steep " + steep + ";").cell(0, 0, 2), steep);
        }
        CHECKS.fault("slope 0 steep 10;", 4, 14);
        CHECKS.fault("slope 0 steep 9999;", 4, 14);
        CHECKS.fault("slope 0 steep 1;slope 0 steep 1;", 3, 22);
        CHECKS.fault("slope 0 steep 1;slope 1 steep 1;slope 2 steep 1;slope 2 steep 1;", 3, 54);
        CHECKS.fault("slope 0 steep 1;slope 1 steep 1;slope 0", 3, 38);
        CHECKS.fine("slope 2 steep 1;slope 1 steep 1;slope 0 steep 1;");
        StringBuilder all = new StringBuilder("rows 5;");
        for (int row = 0; row < 5; row++) {
            all.append("slope ").append(row).append(" steep ").append(9 - row).append(';');
        }
        AvalancheInn inn = CHECKS.fine(all.toString());
        for (int row = 0; row < 5; row++) {
            CHECKS.due("steep " + row, inn.cell(0, row, 2), 9 - row);
        }
        CHECKS.fault(all + "slope 5 steep 1;", 4, all.length() + 6);
        CHECKS.fault(all + "slope 4 steep 1;", 3, all.length() + 6);
    }

    private static void lies() {
        CHECKS.sentence("Terms: a CELL by its lane and its row (lies: each once; snow 0 .. 30, 0 if not told)");
        AvalancheInn inn = CHECKS.fine("lies 3 2 snow 30;lies 2 0 snow 1;");
        CHECKS.due("lane 3, row 2", inn.cell(3, 2, 0), 30);
        CHECKS.due("lane 2, row 0", inn.cell(2, 0, 0), 1);
        CHECKS.due("lane 0, row 2", inn.cell(0, 2, 0), 0);
        CHECKS.fault("lies 4 0 snow 1;", 4, 5);
        CHECKS.fault("lies 0 3 snow 1;", 4, 7);
        CHECKS.fault("lies 4 3 snow 1;", 4, 5);
        CHECKS.fault("lanes 1;rows 1;lies 1 0 snow 1;", 4, 20);
        CHECKS.fault("lanes 1;rows 1;lies 0 1 snow 1;", 4, 22);
        CHECKS.fine("lanes 1;rows 1;lies 0 0 snow 1;");
        CHECKS.due("snow 0", CHECKS.fine("lies 0 0 snow 0;").cell(0, 0, 0), 0);
        CHECKS.due("snow 29", CHECKS.fine("lies 0 0 snow 29;").cell(0, 0, 0), 29);
        CHECKS.fault("lies 0 0 snow 31;", 4, 14);
        CHECKS.fault("lies 0 0 snow 0;lies 0 0 snow 0;", 3, 23);
        CHECKS.fault("lies 0 0 snow 0;lies 0 0;", 3, 23);
        CHECKS.fault("lies 1 2 snow 5;lies 2 1 snow 5;lies 1 2 snow 5;", 3, 39);
        CHECKS.fine("lies 0 1 snow 1;wall 0 1 left;");
    }

    private static void walls() {
        CHECKS.sentence("Terms: wall: each once");
        AvalancheInn inn = CHECKS.fine("wall 3 2 right;wall 2 0 left;");
        CHECKS.due("lane 3, row 2", inn.cell(3, 2, 1), 2);
        CHECKS.due("lane 2, row 0", inn.cell(2, 0, 1), 1);
        CHECKS.due("lane 0, row 2", inn.cell(0, 2, 1), 0);
        CHECKS.fault("wall 4 0 left;", 4, 5);
        CHECKS.fault("wall 0 3 left;", 4, 7);
        CHECKS.fault("lanes 1;rows 1;wall 1 0 left;", 4, 20);
        CHECKS.fault("lanes 1;rows 1;wall 0 1 left;", 4, 22);
        CHECKS.fault("wall 0 0 left;wall 0 0 left;", 3, 21);
        CHECKS.fault("wall 0 0 left;wall 0 0 right;", 3, 21);
        CHECKS.fault("wall 0 0 left;wall 1 0 right;wall 0 0", 3, 36);
        CHECKS.fault("wall 0 0 none;", 2, 9);
        CHECKS.fault("wall 0 0 0;", 2, 9);
    }

    private static void allCells() {
        CHECKS.sentence("Terms: each CELL once: all of the greatest slope");
        StringBuilder text = new StringBuilder("lanes 6;rows 5;");
        for (int i = 0; i < 30; i++) {
            text.append("lies ").append(i / 5).append(' ').append(i % 5).append(" snow ").append(i).append(';');
        }
        AvalancheInn snowy = CHECKS.fine(text.toString());
        StringBuilder walls = new StringBuilder("lanes 6;rows 5;");
        for (int i = 0; i < 30; i++) {
            walls.append("wall ").append(i / 5).append(' ').append(i % 5).append(i % 3 == 0 ? " left;" : " right;");
        }
        AvalancheInn walled = CHECKS.fine(walls.toString());
        for (int i = 0; i < 30; i++) {
            CHECKS.due("snow", snowy.cell(i / 5, i % 5, 0), i);
            CHECKS.due("wall", walled.cell(i / 5, i % 5, 1), i % 3 == 0 ? 1 : 2);
            AvalancheInn twice = new AvalancheInn();
            CHECKS.due("lies twice", Texts.tell(twice, text + "lies " + i / 5 + " " + i % 5), -1);
            CHECKS.due("told already", twice.fault(0), 3);
            CHECKS.due("at the row", twice.fault(1), text.length() + 7);
            CHECKS.due("wall twice", Texts.tell(twice, walls + "wall " + i / 5 + " " + i % 5), -1);
            CHECKS.due("told already", twice.fault(0), 3);
            CHECKS.due("at the row", twice.fault(1), walls.length() + 7);
        }
    }

    private static String manyRooms(int count) {
        StringBuilder text = new StringBuilder();
        for (int i = 0; i < count; i++) {
            text.append("room ").append((char) ('a' + i)).append(" lane ").append(i % 4).append(" bears ").append(i);
            text.append(" rate ").append(i + 10).append(';');
        }
        return text.toString();
    }

    private static void rooms() {
        CHECKS.sentence("Terms: 5 ROOMS (lane below lanes; bears 0 .. 99; rate 0 .. 20, 1 if not told)");
        AvalancheInn inn = CHECKS.fine(manyRooms(5));
        for (int i = 0; i < 5; i++) {
            CHECKS.due("lane", inn.room(i, 0), i % 4);
            CHECKS.due("bears", inn.room(i, 1), i);
            CHECKS.due("rate", inn.room(i, 2), i + 10);
        }
        CHECKS.due("rooms", inn.about(0), 5);
        CHECKS.due("four", CHECKS.fine(manyRooms(4)).about(0), 4);
        CHECKS.fault(manyRooms(6), 2, manyRooms(5).length());
        CHECKS.fault(manyRooms(5) + "  room", 2, manyRooms(5).length() + 2);
        CHECKS.fault(manyRooms(5) + "room a lane 9", 2, manyRooms(5).length());
        CHECKS.fine("lanes 6;room a lane 5 bears 0;");
        CHECKS.fault("lanes 5;room a lane 5 bears 0;", 4, 20);
        CHECKS.fault("room a lane 4 bears 0;", 4, 12);
        CHECKS.fine("lanes 1;room a lane 0 bears 0;");
        CHECKS.fault("lanes 1;room a lane 1 bears 0;", 4, 20);
        for (int bears : new int[] {0, 1, 98, 99}) {
            CHECKS.due("bears", CHECKS.fine("room a lane 0 bears " + bears + ";").room(0, 1), bears);
        }
        CHECKS.fault("room a lane 0 bears 100;", 4, 20);
        for (int rate : new int[] {0, 1, 19, 20}) {
            CHECKS.due("rate", CHECKS.fine("room a lane 0 bears 1 rate " + rate + ";").room(0, 2), rate);
        }
        CHECKS.fault("room a lane 0 bears 1 rate 21;", 4, 27);
        CHECKS.due("not told", CHECKS.fine("room a lane 0 bears 1;").room(0, 2), 1);
        AvalancheInn before = CHECKS.fine("room a lane 0 bears 1 rate 20;");
        Texts.tell(before, ROOM);
        CHECKS.due("not told, behind another pass", before.room(0, 2), 1);
    }

    private static String manyGuests(int count) {
        StringBuilder text = new StringBuilder("room a lane 0 bears 1;room b lane 0 bears 1;");
        for (int i = 0; i < count; i++) {
            text.append("guest ").append((char) ('a' + i)).append(i % 2 == 0 ? " room b" : " room a").append(" noise ");
            text.append(i).append(" from ").append(i + 1).append(" to ").append(i + 40).append(';');
        }
        return text.toString();
    }

    private static void guests() {
        CHECKS.sentence("Terms: 6 GUESTS (of a ROOM told ahead; noise 0 .. 30; from 0 .. 47, to no less than from, 47)");
        AvalancheInn inn = CHECKS.fine(manyGuests(6));
        CHECKS.due("guests", inn.about(1), 6);
        for (int i = 0; i < 6; i++) {
            CHECKS.due("room", inn.guest(i, 0), i % 2 == 0 ? 1 : 0);
            CHECKS.due("noise", inn.guest(i, 1), i);
            CHECKS.due("from", inn.guest(i, 2), i + 1);
            CHECKS.due("to", inn.guest(i, 3), i + 40);
        }
        CHECKS.due("five", CHECKS.fine(manyGuests(5)).about(1), 5);
        CHECKS.fault(manyGuests(7), 2, manyGuests(6).length());
        CHECKS.fault(manyGuests(6) + "\nguest", 2, manyGuests(6).length() + 1);
        CHECKS.fine(manyGuests(6) + "room c lane 0 bears 1;room d lane 0 bears 1;room e lane 0 bears 1;");
        int at = ROOM.length();
        String guest = ROOM + "guest g room a ";
        CHECKS.fine(guest + "noise 0 from 0 to 0;");
        CHECKS.due("noise", CHECKS.fine(guest + "noise 30 from 0 to 0;").guest(0, 1), 30);
        CHECKS.fault(guest + "noise 31 from 0 to 0;", 4, at + 21);
        CHECKS.due("from 46", CHECKS.fine(guest + "noise 1 from 46 to 47;").guest(0, 2), 46);
        CHECKS.due("from 47", CHECKS.fine(guest + "noise 1 from 47 to 47;").guest(0, 2), 47);
        CHECKS.fault(guest + "noise 1 from 48 to 48;", 4, at + 28);
        CHECKS.fine(guest + "noise 1 from 5 to 5;");
        CHECKS.fine(guest + "noise 1 from 5 to 6;");
        CHECKS.fault(guest + "noise 1 from 5 to 4;", 4, at + 33);
        CHECKS.fault(guest + "noise 1 from 1 to 0;", 4, at + 33);
        CHECKS.fine(guest + "noise 1 from 0 to 47;");
        CHECKS.fault(guest + "noise 1 from 0 to 48;", 4, at + 33);
        CHECKS.fault("guest g room a noise 1 from 0 to 0;" + ROOM, 5, 13);
        CHECKS.fault("guest", 2, 5);
    }

    private static void plainNumbers() {
        CHECKS.sentence("Terms: falls (0 .. 9; 1), wind (0 .. 100 of 100; 0), draw (0 .. 999; 0)");
        for (int falls : new int[] {0, 1, 8, 9}) {
            CHECKS.due("falls", CHECKS.fine("falls " + falls + ";").about(16), falls);
        }
        CHECKS.fault("falls 10;", 4, 6);
        for (int wind : new int[] {0, 1, 99, 100}) {
            CHECKS.due("wind", CHECKS.fine("wind " + wind + ";").about(17), wind);
        }
        CHECKS.fault("wind 101;", 4, 5);
        for (int draw : new int[] {0, 1, 998, 999}) {
            CHECKS.due("draw", CHECKS.fine("draw " + draw + ";").about(8), draw);
        }
        CHECKS.fault("draw 1000;", 4, 5);
        AvalancheInn inn = CHECKS.fine("falls 9;wind 100;draw 999;tips 1;");
        Texts.tell(inn, "");
        CHECKS.due("falls, not told", inn.about(16), 1);
        CHECKS.due("wind, not told", inn.about(17), 0);
        CHECKS.due("draw, not told", inn.about(8), 0);
        CHECKS.due("tips, not told", inn.about(14), 0);
        CHECKS.due("the usual formula", inn.next(), 14);
    }

    private static void onceEach() {
        CHECKS.sentence("Terms: tips, falls, wind, draw once each; a second time: at the line's first word");
        String[] lines = {"tips 1;", "falls 1;", "wind 1;", "draw 1;"};
        for (String line : lines) {
            CHECKS.fine(line);
            CHECKS.fault(line + line, 2, line.length());
            CHECKS.fault(line + " " + line.substring(0, 5), 2, line.length() + 1);
            for (String other : lines) {
                if (!other.equals(line)) {
                    CHECKS.fine(line + other);
                    CHECKS.fault(line + other + line, 2, line.length() + other.length());
                }
            }
        }
        CHECKS.fine("draw 1;wind 1;falls 1;tips 1;" + ROOM + GUEST);
        CHECKS.fine(ROOM + GUEST + "draw 1;wind 1;falls 1;tips 1;");
    }

    private static void unitsInOne() {
        CHECKS.sentence("Terms: 30 in one e; a unit too many: at its first TOKEN");
        for (int units = 1; units <= 30; units += units == 1 ? 27 : 1) {
            String sum = "tips 1" + "+1".repeat(units - 1);
            CHECKS.due("units", CHECKS.fine(sum + ";").about(14), units);
        }
        String thirty = "tips 1" + "+1".repeat(29);
        CHECKS.fault(thirty + "+1;", 2, thirty.length() + 1);
        CHECKS.fault(thirty + "+ snow;", 2, thirty.length() + 2);
        CHECKS.fault(thirty + "+(1);", 2, thirty.length() + 1);
        CHECKS.fault(thirty + "+(1", 2, thirty.length() + 1);
        CHECKS.fault(thirty + " and not 1;", 2, thirty.length() + 9);
        CHECKS.fault(thirty + "+)", 2, thirty.length() + 1);
        CHECKS.fault(thirty + "+#", 1, thirty.length() + 1);
        CHECKS.fine(thirty + "\n;");
        // a unit ( e ) is one, and what is within it counts too
        String nested = "tips (1)" + "+1".repeat(28);
        CHECKS.due("units", CHECKS.fine(nested + ";").about(14), 30);
        CHECKS.fault(nested + "+1;", 2, nested.length() + 1);
        CHECKS.fault("tips " + "1+".repeat(29) + "(1);", 2, 64);
        CHECKS.fault("tips " + "1+".repeat(30) + "(1);", 2, 65);
        CHECKS.due("not is no unit", CHECKS.fine("tips not not 1 and not 2;").about(14), 2);
        // each unit within seven nots: all of them count
        String nots = "not ".repeat(7);
        String longest = "lies 0 0 snow 1;tips " + (nots + "0 and ").repeat(29) + nots;
        CHECKS.due("thirty times 1", CHECKS.fine(longest + "0;").cell(0, 0, 3), 1);
        CHECKS.due("the last is 0", CHECKS.fine(longest + "1;").cell(0, 0, 3), 0);
        String[] joins = {"+", "-", "*", "/", "%", " and ", " or "};
        for (String join : joins) {
            String long30 = "tips 1" + (join + "1").repeat(29);
            CHECKS.due("units", CHECKS.fine(long30 + ";").about(14), 30);
            CHECKS.fault(long30 + join + "1;", 2, long30.length() + join.length());
        }
    }

    private static void within() {
        CHECKS.sentence("Terms: a unit ( e ), or a one behind not, within 6 others at most; within 7: at it, or the not");
        for (int depth = 1; depth <= 7; depth++) {
            CHECKS.fine("tips " + "(".repeat(depth) + "1" + ")".repeat(depth) + ";");
            CHECKS.fine("tips " + "not ".repeat(depth) + "1;");
            CHECKS.fine("tips " + "not(".repeat(depth / 2) + "1" + ")".repeat(depth / 2) + ";");
        }
        CHECKS.fault("tips " + "(".repeat(8) + "1" + ")".repeat(8) + ";", 2, 12);
        CHECKS.fault("tips " + "(".repeat(8), 2, 12);
        CHECKS.fault("tips " + "not ".repeat(8) + "1;", 2, 33);
        CHECKS.fault("tips " + "not ".repeat(9) + "1;", 2, 33);
        CHECKS.fine("tips not(not(not(not 1)));");
        CHECKS.fault("tips not(not(not(not(1))));", 2, 20);
        CHECKS.fault("tips (not(not(not(not 1))));", 2, 18);
        CHECKS.fault("tips " + "(".repeat(7) + "not 1;", 2, 12);
        CHECKS.fault("tips " + "not ".repeat(7) + "(1);", 2, 33);
        CHECKS.fine("tips " + "(".repeat(7) + "1+snow and 2 or 3" + ")".repeat(7) + ";");
        // beside one another they are not within one another
        CHECKS.fine("tips " + "(((((((1)))))))" + "+(((((((1)))))))" + ";");
        CHECKS.fine("tips " + "not not not not not not not 1 and ".repeat(3) + "not not not not not not not 1;");
        CHECKS.fault("tips 1 and (((((((1))))))) or ((((((((1))))))));", 2, 37);
        // what is joined behind a not is not within it
        CHECKS.fine("tips " + "not ".repeat(7) + "1 and not 1;");
        CHECKS.fine("tips " + "not ".repeat(7) + "1 or (1);");
        CHECKS.fault("tips " + "not ".repeat(7) + "1 + (1);", 2, 37);
        CHECKS.fault("tips " + "not ".repeat(7) + "1 < (1);", 2, 37);
    }

    private static void grammarOfLines() {
        CHECKS.sentence("Terms: FAULT 2: one that can't stand there, in each line at each TOKEN");
        String[] lines = {"lanes 4 ;", "rows 3 ;", "slope 0 steep 1 ;", "lies 0 0 snow 1 ;", "wall 0 0 left ;",
            "wall 0 0 right ;", "room b lane 0 bears 1 ;", "room b lane 0 bears 1 rate 2 ;",
            "guest h room a noise 1 from 2 to 3 ;", "tips 1 ;", "falls 1 ;", "wind 1 ;", "draw 1 ;"};
        for (String line : lines) {
            String ahead = line.startsWith("guest") ? ROOM : "";
            CHECKS.fine(ahead + line);
            String[] tokens = line.split(" ");
            int place = ahead.length();
            for (int i = 0; i < tokens.length; i++) {
                String text = ahead + line.substring(0, place - ahead.length());
                CHECKS.fault(text + ") " + line, 2, place);
                if (i > 0) {
                    CHECKS.fault(text, 2, place);
                    CHECKS.fault(text + " ", 2, place + 1);
                    CHECKS.fault(text + "#", 1, place);
                }
                if (i > 0 && !tokens[i].equals(";") && !tokens[i].equals("rate")) {
                    CHECKS.fault(text + ";", 2, place);
                }
                place += tokens[i].length() + 1;
            }
        }
        CHECKS.fault("falls 1;;", 2, 8);
        CHECKS.fault("room b lane 0 bears 1 rate 2 rate 2;", 2, 29);
    }

    private static void grammarOfFormulas() {
        CHECKS.sentence("Terms: FAULT 2 in an e");
        CHECKS.fault("tips", 2, 4);
        CHECKS.fault("tips ;", 2, 5);
        CHECKS.fault("tips ( ) ;", 2, 7);
        CHECKS.fault("tips ( 1 ;", 2, 9);
        CHECKS.fault("tips 1 ) ;", 2, 7);
        CHECKS.fault("tips 1 < 2 > 3;", 2, 11);
        CHECKS.fault("tips 1 = 2 = 3;", 2, 11);
        CHECKS.fine("tips (1 < 2) > 3;");
        CHECKS.fine("tips 1 < 2 and 3 > 2 or 4 = 4;");
        CHECKS.fault("tips 1 + not 2;", 2, 9);
        CHECKS.fault("tips 1 < not 2;", 2, 9);
        CHECKS.fine("tips 1 + (not 2);");
        CHECKS.fault("tips not;", 2, 8);
        CHECKS.fault("tips not and 1;", 2, 9);
        CHECKS.fault("tips -1;", 2, 5);
        CHECKS.fault("tips 1 +;", 2, 8);
        CHECKS.fault("tips 1 + + 2;", 2, 9);
        CHECKS.fault("tips 1 2;", 2, 7);
        CHECKS.fault("tips snow steep;", 2, 10);
        CHECKS.fault("tips 1 or;", 2, 9);
        CHECKS.fault("tips or 1;", 2, 5);
        CHECKS.fault("tips 1 and or 1;", 2, 11);
        CHECKS.fault("tips 1 < ;", 2, 9);
        String[] units = {"snow", "steep", "noise", "below", "hour", "row", "0", "9999", "(1)"};
        for (String unit : units) {
            CHECKS.fine("tips " + unit + ";");
        }
        for (String word : OWN_WORDS) {
            boolean unit = " snow steep noise below hour row ".contains(" " + word + " ");
            if (!unit && !word.equals("not")) {
                CHECKS.fault("tips " + word + ";", 2, 5);
            }
        }
        CHECKS.fault("tips rows;", 2, 5);
        CHECKS.fault("tips lane;", 2, 5);
        CHECKS.fault("tips name;", 2, 5);
    }

    private static void firstFault() {
        CHECKS.sentence("Terms: FAULTS, the first by its place; the end: the text's length; at one place the least");
        CHECKS.fault("lanes 0 #", 4, 6);
        CHECKS.fault("lanes 0", 4, 6);
        CHECKS.fault("lanes # 0", 1, 6);
        CHECKS.fault("lanes 1", 2, 7);
        CHECKS.fault("lanes 1 \n ", 2, 10);
        CHECKS.fault("lanes 1;lanes 99999;", 2, 8);
        CHECKS.fault("lies 9 9 snow 99;", 4, 5);
        CHECKS.fault("lies 0 9 snow 99;", 4, 7);
        CHECKS.fault("room a lane 9 bears 999 rate 99;", 4, 12);
        CHECKS.fault("room a lane 0 bears 999 rate 99;", 4, 20);
        CHECKS.fault(ROOM + "room a lane 9", 3, ROOM.length() + 5);
        CHECKS.fault(ROOM + GUEST + "guest g room z", 3, ROOM.length() + GUEST.length() + 6);
        CHECKS.fault(ROOM + "guest g room z noise 99", 5, ROOM.length() + 13);
        CHECKS.fault("guest room", 2, 6);
        // 99999 is no TOKEN, and no number that can be
        CHECKS.fault("lanes 99999;", 1, 6);
        // a word that is too long is no TOKEN, nor a NAME that a ROOM has
        CHECKS.fault(ROOM + "guest g room abcdefghij noise 1", 1, ROOM.length() + 13);
        CHECKS.fault("slope 9 steep 1;slope 9", 4, 6);
    }

    private static void namesAndRooms() {
        CHECKS.sentence("Terms: FAULT 3: a NAME told already (of its sort); 5: a NAME that no ROOM has");
        CHECKS.fine("room a lane 0 bears 1;guest a room a noise 1 from 0 to 0;");
        CHECKS.fine("room a lane 0 bears 1;guest b room a noise 1 from 0 to 0;room b lane 0 bears 1;");
        CHECKS.fault("room a lane 0 bears 1;guest b room b noise 1 from 0 to 0;", 5, 35);
        CHECKS.fault(manyRooms(4) + "room a lane 0 bears 1;", 3, manyRooms(4).length() + 5);
        CHECKS.fault(manyRooms(4) + "room d lane 0 bears 1;", 3, manyRooms(4).length() + 5);
        CHECKS.fault(manyGuests(5) + "guest a room a noise 1 from 0 to 0;", 3, manyGuests(5).length() + 6);
        CHECKS.fault(manyGuests(5) + "guest e room a noise 1 from 0 to 0;", 3, manyGuests(5).length() + 6);
        CHECKS.fine(manyGuests(5) + "guest f room a noise 1 from 0 to 0;");
        for (int room = 0; room < 5; room++) {
            String name = String.valueOf((char) ('a' + room));
            AvalancheInn inn = CHECKS.fine(manyRooms(5) + "guest g room " + name + " noise 1 from 0 to 0;");
            CHECKS.due("the room", inn.guest(0, 0), room);
        }
        CHECKS.fault(manyRooms(5) + "guest g room f noise 1 from 0 to 0;", 5, manyRooms(5).length() + 13);
        // names of a pass before are told no more
        AvalancheInn inn = CHECKS.fine(ROOM);
        CHECKS.due("pass()", Texts.tell(inn, "guest g room a noise 1 from 0 to 0;"), -1);
        CHECKS.due("fault(0)", inn.fault(0), 5);
        CHECKS.due("pass()", Texts.tell(inn, ROOM), 1);
    }

    private static void faultOfTheLatest() {
        CHECKS.sentence("5: of the latest pass(): its FAULT (0), its place (NONE); NONE for another what");
        AvalancheInn inn = new AvalancheInn();
        CHECKS.due("fault(0) at first", inn.fault(0), 0);
        CHECKS.due("fault(1) at first", inn.fault(1), -1);
        Texts.tell(inn, "lanes 0;");
        for (int what : new int[] {-1, 2, 3, Integer.MIN_VALUE, Integer.MAX_VALUE}) {
            CHECKS.due("fault(" + what + ")", inn.fault(what), -1);
        }
        CHECKS.due("fault(0)", inn.fault(0), 4);
        CHECKS.due("fault(1)", inn.fault(1), 6);
        CHECKS.due("pass() of the same tape", inn.pass(), -1);
        CHECKS.due("fault(0)", inn.fault(0), 4);
        CHECKS.due("pass()", Texts.tell(inn, "#"), -1);
        CHECKS.due("fault(0)", inn.fault(0), 1);
        CHECKS.due("a place of 0", inn.fault(1), 0);
        CHECKS.due("pass()", Texts.tell(inn, "lanes 1;"), 0);
        CHECKS.due("fault(0)", inn.fault(0), 0);
        CHECKS.due("fault(1)", inn.fault(1), -1);
    }
}
