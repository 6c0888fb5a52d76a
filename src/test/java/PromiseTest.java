/** The promises one by one, by answers worked out by hand from the document. */
public final class PromiseTest {
    private static int wrong;
    private static int checked;

    /** Two lanes, two rows; the gable bears little, and ann sings in it. */
    private static final String INN = "lanes 2;rows 2;slope 0 steep 5;slope 1 steep 2;lies 0 0 snow 6;lies 0 1 snow 3;"
            + "lies 1 0 snow 2;wall 1 1 left;room gable lane 0 bears 5 rate 4;room bar lane 1 bears 20;"
            + "guest ann room gable noise 8 from 0 to 5;guest bob room bar noise 30 from 2 to 3;falls 1;wind 30;draw 7;";

    private static void due(int promise, String call, long got, long want) {
        checked++;
        if (got != want) {
            wrong++;
            System.out.println("promise " + promise + ": " + call + " answered " + got + ", due is " + want);
        }
    }

    private static void due(int promise, String call, boolean got, boolean want) {
        due(promise, call, got ? 1 : 0, want ? 1 : 0);
    }

    private static AvalancheInn inn(String text) {
        AvalancheInn inn = new AvalancheInn();
        if (Texts.tell(inn, text) < 0) {
            wrong++;
            System.out.println("fault " + inn.fault(0) + " at " + inn.fault(1) + " in: " + text);
        }
        return inn;
    }

    private static void fault(String text, int kind, int place) {
        AvalancheInn inn = new AvalancheInn();
        due(4, "pass() of " + text, Texts.tell(inn, text), -1);
        due(5, "fault(0) of " + text, inn.fault(0), kind);
        due(5, "fault(1) of " + text, inn.fault(1), place);
    }

    private static void fine(String text) {
        AvalancheInn inn = new AvalancheInn();
        Texts.tell(inn, text);
        due(5, "fault(0) of " + text, inn.fault(0), 0);
        due(5, "fault(1) of " + text, inn.fault(1), -1);
    }

    public static void main(String[] args) {
        newObject();
        tape();
        passes();
        tokens();
        misplaced();
        toldAlready();
        badNumbers();
        formulaLimits();
        formulaWorth();
        looks();
        noises();
        hours();
        slides();
        drift();
        shouts();
        roomActs();
        guestActs();
        cellActs();
        undoRedo();
        forecasts();
        tracks();
        loudness();
        places();
        hushes();
        dams();
        brunts();
        shovels();
        duels();
        windless();
        fears();
        guestHours();
        laws();
        odds();
        seen();
        boxes();
        abouts();
        System.out.println(checked + " answers checked, " + wrong + " not as due");
        if (wrong != 0) {
            System.exit(1);
        }
    }

    private static void newObject() {
        AvalancheInn inn = new AvalancheInn();
        int[] about = {0, 0, 4, 3, 0, 0, 0, 0, 0, 0, 0, 0, 0, 0, 0, 0, 1, 0};
        for (int i = 0; i < about.length; i++) {
            due(1, "about(" + i + ")", inn.about(i), about[i]);
        }
        due(1, "fault(0)", inn.fault(0), 0);
        due(1, "fault(1)", inn.fault(1), -1);
        due(1, "cell(3, 2, 2)", inn.cell(3, 2, 2), 3);
        due(1, "undo()", inn.undo(), false);
        due(1, "redo()", inn.redo(), false);
        due(1, "back(0)", inn.back(0), -1);
        due(1, "lies(0)", inn.lies(0), -2);
        // 14 hours of 1 each: 14 * 3 - 40 is above 0
        due(1, "next()", inn.next(), 14);
        due(1, "NONE", AvalancheInn.NONE, -1);
    }

    private static void tape() {
        AvalancheInn inn = new AvalancheInn();
        due(2, "feed", inn.feed(0x66616c6c, 0x7320373b, 0x20202020, 0x20202020, 0x20202020), 20);
        due(52, "about(13)", inn.about(13), 20);
        due(3, "end(21)", inn.end(21), -1);
        due(3, "end(-1)", inn.end(-1), -1);
        due(3, "end(8)", inn.end(8), 8);
        due(3, "end(9)", inn.end(9), -1);
        due(4, "pass()", inn.pass(), 0);
        due(2, "about(16)", inn.about(16), 7);
        due(4, "about(13)", inn.about(13), 0);
        for (int i = 1; i <= 80; i++) {
            due(2, "feed " + i, inn.feed(0x20202020, 0x20202020, 0x20202020, 0x20202020, 0x20202020), 20 * i);
        }
        due(2, "feed 81", inn.feed(0, 0, 0, 0, 0), -1);
        due(2, "about(13)", inn.about(13), 1600);
        due(3, "end(1581)", inn.end(1581), 1581);
        due(2, "feed of 1581", inn.feed(0, 0, 0, 0, 0), -1);
        due(3, "end(1580)", inn.end(1580), 1580);
        due(2, "feed of 1580", inn.feed(0x20202020, 0x20202020, 0x20202020, 0x20202020, 0x2020203b), 1600);
        due(4, "pass()", inn.pass(), -1);
        due(5, "fault(0)", inn.fault(0), 2);
        due(5, "fault(1)", inn.fault(1), 1599);
        due(3, "end(0)", inn.end(0), 0);
    }

    private static void passes() {
        AvalancheInn inn = inn(INN);
        due(4, "rooms", inn.about(0), 2);
        inn.hour();
        inn.image(1);
        inn.seen(1, 0, true);
        inn.places(1);
        inn.later(5);
        due(4, "pass() with a fault", Texts.tell(inn, "lanes 2;room"), -1);
        due(5, "fault(0)", inn.fault(0), 2);
        due(5, "fault(1)", inn.fault(1), 12);
        due(5, "fault(2)", inn.fault(2), -1);
        due(5, "fault(-1)", inn.fault(-1), -1);
        due(4, "the tape stays", inn.about(13), 12);
        due(4, "rooms stay", inn.about(0), 2);
        due(4, "the hour stays", inn.about(7), 1);
        due(4, "acts stay", inn.about(9), 1);
        due(4, "seen stays", inn.about(11), 1);
        due(4, "what lies there stays", inn.about(15), 2);
        due(4, "the box stays", inn.back(1), 1);
        due(4, "pass()", Texts.tell(inn, INN), 2);
        due(5, "fault(0)", inn.fault(0), 0);
        due(5, "fault(1)", inn.fault(1), -1);
        due(4, "the hour", inn.about(7), 0);
        due(4, "acts", inn.about(9), 0);
        due(4, "seen", inn.about(11), 0);
        due(4, "lies", inn.about(15), 0);
        due(4, "the box", inn.back(1), -1);
        due(4, "the time stays", inn.about(12), 5);
        due(4, "gone", inn.about(4), 0);
        due(4, "purse", inn.about(6), 0);
        due(4, "seed", inn.about(8), 7);
        due(4, "an empty tape", Texts.tell(inn, ""), 0);
        due(4, "lanes", inn.about(2), 4);
        due(4, "wind", inn.about(17), 0);
    }

    private static void tokens() {
        fault("#", 1, 0);
        fault("lanes 2;\t", 1, 8);
        fault("lanes 2 A", 1, 8);
        fault("lanes 00004;", 1, 6);
        fine("lanes 0004;");
        fault("lanes 4x;", 1, 6);
        fault("tips 5snow;", 1, 5);
        fault("room abcdefghi lane 0 bears 1;", 1, 5);
        fine("room abcdefgh lane 0 bears 1;");
        fine("lanes4;rows2;slope 0 steep1;");
        fault("slope0steep1;", 1, 5);
        fine(" \n lanes\n2 ; ");
        fault("lanes 2", 2, 7);
        fault("lanes 2  ", 2, 9);
        fault("lanes", 2, 5);
        fault("\u00e9", 1, 0);
        fault("falls 1".repeat(230).substring(0, 1600), 1, 6);
        fault(" ".repeat(1599) + "a", 2, 1599);
        fault(" ".repeat(1599) + "7", 2, 1599);
        fault("lanes 3;" + " ".repeat(1585) + "falls 1", 2, 1600);
        fine("lanes 3;" + " ".repeat(1584) + "falls 1;");
        fault("room abcxyz lane 0 bears 1;room abcxyz", 3, 32);
    }

    private static void misplaced() {
        fault(";", 2, 0);
        fault("4", 2, 0);
        fault("snow 4;", 2, 0);
        fault("ann", 2, 0);
        fault("lanes ;", 2, 6);
        fault("lanes two;", 2, 6);
        fault("lanes 2;lanes 2;", 2, 8);
        fault("rows 2;rows 2;", 2, 7);
        fault("slope 0 steep 1;lanes 2;", 2, 16);
        fault("lies 0 0 snow 1;rows 2;", 2, 16);
        fault("wall 0 0 left;rows 2;", 2, 14);
        fault("room a lane 0 bears 1;lanes 2;", 2, 22);
        fine("tips 1;falls 1;wind 1;draw 1;rows 2;lanes 2;");
        fault("tips 1;tips 1;", 2, 7);
        fault("falls 1;falls 1;", 2, 8);
        fault("wind 1;wind 1;", 2, 7);
        fault("draw 1;draw 1;", 2, 7);
        fault("wall 0 0 up;", 2, 9);
        fault("wall 0 0;", 2, 8);
        fault("lies 0 0 1;", 2, 9);
        fault("room lane lane 0 bears 1;", 2, 5);
        fault("room below lane 0 bears 1;", 2, 5);
        fault("room a lane 0 bears 1 rate;", 2, 26);
        fault("room a lane 0 rate 1;", 2, 14);
        fault("room a lane 0 bears 1;guest a room room", 2, 35);
        fine("room a lane 0 bears 1;guest a room a noise 0 from 0 to 0;");
        String room = "room %s lane 0 bears 1;";
        String five = room.formatted("a") + room.formatted("b") + room.formatted("c") + room.formatted("d")
                + room.formatted("e");
        fine(five);
        fault(five + "room", 2, 110);
        String guest = "guest %s room a noise 0 from 0 to 0;";
        StringBuilder six = new StringBuilder(room.formatted("a"));
        for (char name = 'a'; name <= 'f'; name++) {
            six.append(guest.formatted(name));
        }
        fine(six.toString());
        fault(six + " guest", 2, six.length() + 1);
    }

    private static void toldAlready() {
        fault("room a lane 0 bears 1;room a lane", 3, 27);
        fault("room a lane 0 bears 1;guest b room a noise 0 from 0 to 0;guest b", 3, 63);
        fault("slope 1 steep 2;slope 1 steep", 3, 22);
        fault("lies 2 1 snow 2;lies 2 1", 3, 23);
        fault("wall 2 1 left;wall 2 1 right", 3, 21);
        fine("lies 2 1 snow 2;wall 2 1 left;lies 1 2 snow 2;wall 1 2 right;");
        fault("guest b room a", 5, 13);
        fault("room a lane 0 bears 1;guest b room b", 5, 35);
    }

    private static void badNumbers() {
        fault("lanes 0;", 4, 6);
        fault("lanes 7;", 4, 6);
        fine("lanes 6;rows 5;");
        fault("rows 0;", 4, 5);
        fault("rows 6;", 4, 5);
        fault("slope 3 steep 1;", 4, 6);
        fine("rows 4;slope 3 steep 0;");
        fault("slope 0 steep 10;", 4, 14);
        fault("lies 4 0 snow 1;", 4, 5);
        fault("lies 0 3 snow 1;", 4, 7);
        fault("lies 0 0 snow 31;", 4, 14);
        fine("lies 3 2 snow 30;");
        fault("wall 4 0 left;", 4, 5);
        fault("wall 0 3 left;", 4, 7);
        fault("room a lane 4 bears 1;", 4, 12);
        fault("room a lane 0 bears 100;", 4, 20);
        fault("room a lane 0 bears 1 rate 21;", 4, 27);
        fine("room a lane 3 bears 99 rate 20;");
        String room = "room a lane 0 bears 1;";
        fault(room + "guest b room a noise 31", 4, 43);
        fault(room + "guest b room a noise 30 from 48", 4, 51);
        fault(room + "guest b room a noise 30 from 5 to 4", 4, 56);
        fault(room + "guest b room a noise 30 from 5 to 48", 4, 56);
        fine(room + "guest b room a noise 30 from 47 to 47;");
        fault("falls 10;", 4, 6);
        fault("wind 101;", 4, 5);
        fault("draw 1000;", 4, 5);
        fine("falls 9;wind 100;draw 999;");
        fine("falls 0;wind 0;draw 0;");
        fine("lies 0 0 snow 0;room a lane 0 bears 0 rate 0;guest z room a noise 0 from 0 to 0;");
    }

    private static void formulaLimits() {
        String thirty = "1" + "+1".repeat(29);
        AvalancheInn inn = inn("tips " + thirty + ";");
        due(52, "about(14)", inn.about(14), 30);
        fault("tips " + thirty + "+1;", 2, 65);
        fault("tips " + thirty + "+;", 2, 65);
        fine("tips (((((((snow)))))));");
        fault("tips ((((((((snow))))))));", 2, 12);
        fine("tips not not not not not not not snow;");
        fault("tips not not not not not not not not snow;", 2, 33);
        fault("tips (((((((not snow)))))));", 2, 12);
        fine("tips (((((not (snow))))));");
        fault("tips ((((((not (snow)))))));", 2, 15);
        due(52, "about(14)", inn("tips (snow + 1) * 2 > 3;").about(14), 5);
        fault("tips;", 2, 4);
        fault("tips ();", 2, 6);
        fault("tips (snow;", 2, 10);
        fault("tips 1 < 2 < 3;", 2, 11);
        fault("tips 1 + not 2;", 2, 9);
        fault("tips -1;", 2, 5);
        fault("tips ann;", 2, 5);
        fault("tips lanes;", 2, 5);
        fault("tips 1 and;", 2, 10);
        fault("tips 1 1;", 2, 7);
        String nots = "not ".repeat(7);
        String longest = (nots + "0 and ").repeat(29) + nots;
        due(6, "the longest formula", inn("lies 0 0 snow 1;tips " + longest + "0;").cell(0, 0, 3), 1);
        due(6, "and its last unit counts", inn("lies 0 0 snow 1;tips " + longest + "1;").cell(0, 0, 3), 0);
        fine("tips not 1 < 2 and not 3 or 4 = 5;");
    }

    /** The cell in lane 0, row 0 has 5 of snow, 2 below it, it is as steep as 4, and noise is 7. */
    private static int tips(String formula) {
        AvalancheInn inn = inn("lanes 2;rows 2;lies 0 0 snow 5;lies 0 1 snow 2;slope 0 steep 4;falls 0;"
                + "room a lane 0 bears 99;guest g room a noise 7 from 0 to 47;tips " + formula + ";");
        return inn.cell(0, 0, 3);
    }

    private static void formulaWorth() {
        String[] so = {"snow = 5", "steep = 4", "noise = 7", "below = 2", "row = 0", "hour = 0", "1", "not 0",
            "2 + 3 * 4 = 14", "20 - 5 - 4 = 11", "(2 + 3) * 4 = 20", "7 / 2 = 3", "(0 - 7) / 2 = 0 - 3",
            "(0 - 7) % 3 = 0 - 1", "5 / 0 = 0", "5 % 0 = 0", "0 < 1", "1 > 0", "not 1 < 0", "1 or 0 and 0", "0 or 2 and 3",
            "(7 and 9) = 1", "(0 or 9) = 1", "(3 > 2) = 1", "not not 5 = 5", "0 - 1 and 1", "snow * steep + noise - 26",
            "9999 * 9999 * 9999 < 0", "100 / 5 / 2 = 10", "17 % 10 % 4 = 3"};
        for (String formula : so) {
            due(6, "tips " + formula, tips(formula), 1);
        }
        String[] not = {"0", "0 - 5", "snow < 5", "snow > 5", "not 5", "snow * steep + noise - 27", "1 and 0", "0 or 0",
            "5 / 0", "1 < 1", "(1 or 0) and 0"};
        for (String formula : not) {
            due(6, "tips " + formula, tips(formula), 0);
        }
        // 999700029999 is -1027349969 as an int
        due(6, "wrapping", tips("9999 * 9999 * 9999 / 1000 / 1000 = 0 - 1027"), 1);
        AvalancheInn inn = inn("lanes 1;rows 1;lies 0 0 snow 9;falls 0;tips hour > 1;");
        due(10, "hour() 0", inn.hour(), 0);
        due(10, "hour() 1", inn.hour(), 0);
        due(6, "snow", inn.cell(0, 0, 0), 9);
        due(6, "tips at hour 2", inn.cell(0, 0, 3), 1);
        due(6, "a cell without snow", inn("tips 1;").cell(0, 0, 3), 0);
        due(6, "below in the last row", inn("lanes 1;rows 1;lies 0 0 snow 1;tips below = 0;").cell(0, 0, 3), 1);
    }

    private static void looks() {
        AvalancheInn inn = inn(INN);
        due(6, "cell(0, 0, 0)", inn.cell(0, 0, 0), 6);
        due(6, "cell(1, 1, 1)", inn.cell(1, 1, 1), 1);
        due(6, "cell(0, 1, 1)", inn.cell(0, 1, 1), 0);
        due(6, "cell(1, 0, 2)", inn.cell(1, 0, 2), 5);
        due(6, "cell(0, 0, 3)", inn.cell(0, 0, 3), 0);
        due(6, "cell(0, 0, 4)", inn.cell(0, 0, 4), -1);
        due(6, "cell(0, 0, -1)", inn.cell(0, 0, -1), -1);
        due(6, "cell(2, 0, 0)", inn.cell(2, 0, 0), -1);
        due(6, "cell(0, 2, 0)", inn.cell(0, 2, 0), -1);
        due(6, "cell(-1, 0, 0)", inn.cell(-1, 0, 0), -1);
        due(6, "cell(0, -1, 0)", inn.cell(0, -1, 0), -1);
        due(6, "right wall", inn("wall 3 2 right;").cell(3, 2, 1), 2);
        int[] gable = {0, 5, 4, 1, -1};
        int[] bar = {1, 20, 1, 1, -1};
        int[] bob = {1, 30, 2, 3, 0, -1};
        for (int i = 0; i < 5; i++) {
            due(7, "room(0, " + i + ")", inn.room(0, i), gable[i]);
            due(7, "room(1, " + i + ")", inn.room(1, i), bar[i]);
        }
        for (int i = 0; i < 6; i++) {
            due(8, "guest(1, " + i + ")", inn.guest(1, i), bob[i]);
        }
        due(7, "room(2, 0)", inn.room(2, 0), -1);
        due(7, "room(-1, 0)", inn.room(-1, 0), -1);
        due(7, "room(0, -1)", inn.room(0, -1), -1);
        due(8, "guest(2, 0)", inn.guest(2, 0), -1);
        due(8, "guest(-1, 0)", inn.guest(-1, 0), -1);
        due(8, "guest(0, -1)", inn.guest(0, -1), -1);
        due(40, "heap(0)", inn.heap(0), 9);
        due(40, "heap(1)", inn.heap(1), 2);
        due(40, "heap(2)", inn.heap(2), -1);
        due(40, "heap(-1)", inn.heap(-1), -1);
    }

    private static void noises() {
        AvalancheInn inn = inn("lanes 2;rows 1;falls 0;room a lane 0 bears 9;room b lane 0 bears 9;"
                + "guest x room a noise 3 from 0 to 1;guest y room b noise 5 from 1 to 47;");
        due(9, "noise(0)", inn.noise(0), 3);
        due(9, "noise(1)", inn.noise(1), 0);
        due(9, "noise(2)", inn.noise(2), -1);
        due(9, "noise(-1)", inn.noise(-1), -1);
        inn.hour();
        due(9, "both at hour 1", inn.noise(0), 8);
        inn.move(1, 1);
        due(9, "the other lane", inn.noise(1), 5);
        inn.hour();
        due(9, "x is still from hour 2 on", inn.noise(0), 0);
        inn.hush(1);
        due(9, "y is hushed", inn.noise(1), 0);
        inn.let(1);
        for (int i = 2; i < 48; i++) {
            inn.hour();
        }
        due(9, "about(7)", inn.about(7), 48);
        due(9, "hour 48 is as 0", inn.noise(0), 3);
        due(9, "y is still then", inn.noise(1), 0);
    }

    private static void hours() {
        AvalancheInn inn = inn(INN);
        // seed 7 * 137 + 71 = 1030: 30, which is not below 30: no wind; 7 * 5 + 8 - 40 = 3 is above 0: 7 and 4 go down
        due(10, "hour()", inn.hour(), 1);
        due(10, "seed", inn.about(8), 30);
        due(10, "gone", inn.about(4), 1);
        due(10, "purse", inn.about(6), 1);
        due(10, "hour", inn.about(7), 1);
        due(10, "cell(0, 0, 0)", inn.cell(0, 0, 0), 0);
        due(10, "cell(0, 1, 0)", inn.cell(0, 1, 0), 0);
        due(10, "cell(1, 0, 0)", inn.cell(1, 0, 0), 3);
        due(10, "cell(1, 1, 0)", inn.cell(1, 1, 0), 1);
        due(10, "the gable is gone", inn.room(0, 3), 0);
        due(10, "hour() 2", inn.hour(), 0);
        AvalancheInn deep = inn("lanes 1;rows 1;falls 9;lies 0 0 snow 30;tips 0;");
        for (int i = 0; i < 8; i++) {
            deep.hour();
        }
        due(10, "99 at most", deep.cell(0, 0, 0), 99);
        AvalancheInn late = inn("lanes 1;rows 1;falls 0;");
        for (int i = 0; i < 400; i++) {
            late.hour();
        }
        due(10, "hour 400", late.about(7), 400);
        due(10, "kept acts", late.about(9), 40);
    }

    private static void slides() {
        // top down: the upper cell takes the lower one along, which then has nothing to tip
        AvalancheInn inn = inn("lanes 3;rows 3;falls 0;lies 1 0 snow 4;lies 1 1 snow 2;lies 0 1 snow 3;lies 0 2 snow 5;"
                + "wall 1 1 left;tips row = 0;room a lane 0 bears 11;room b lane 0 bears 12;room c lane 1 bears 0;");
        due(27, "track lane", inn.track(1, 0, 0), 0);
        due(27, "track load", inn.track(1, 0, 1), 12);
        due(10, "bears less", inn.hour(), 1);
        due(10, "walled snow stays", inn.cell(1, 1, 0), 2);
        due(10, "taken along", inn.cell(0, 1, 0) + inn.cell(0, 2, 0), 0);
        // no other wall turns it in that row: (0, 1) has one to the right
        AvalancheInn twice = inn("lanes 3;rows 2;lies 1 0 snow 4;wall 1 1 left;wall 0 1 right;");
        due(27, "turned once", twice.track(1, 0, 0), 0);
        AvalancheInn aside = inn("lanes 2;rows 3;falls 0;lies 0 0 snow 4;lies 0 1 snow 4;wall 0 2 left;wall 1 1 right;"
                + "lies 1 0 snow 3;room a lane 0 bears 0;room b lane 1 bears 0;tips row = 0;");
        due(27, "aside left", aside.track(0, 0, 0), -1);
        due(27, "aside load", aside.track(0, 0, 1), 0);
        due(27, "aside right", aside.track(1, 0, 0), -1);
        due(10, "nothing comes of it", aside.hour(), 0);
        due(10, "it is no more", aside.heap(0) + aside.heap(1), 0);
        // a room that goes takes its noise with it: lane 1 would tip by it, but lane 0 comes first
        AvalancheInn still = inn("lanes 2;rows 2;falls 0;lies 0 0 snow 9;lies 1 1 snow 9;room a lane 0 bears 1;"
                + "guest g room a noise 9 from 0 to 47;tips noise > 0;");
        due(10, "a goes", still.hour(), 1);
        due(10, "lane 1 does not tip", still.cell(1, 1, 0), 9);
        // row by row: (1, 0) is ahead of (0, 1), and turns into it
        AvalancheInn rows = inn("lanes 2;rows 2;falls 0;lies 0 1 snow 2;lies 1 0 snow 3;wall 1 1 left;"
                + "room a lane 0 bears 4;tips 1;");
        due(10, "together", rows.hour(), 1);
    }

    private static void drift() {
        // seed 0 becomes 71: the lane is 71 % 4 = 3
        AvalancheInn inn = inn("wind 72;falls 2;");
        inn.hour();
        due(10, "seed", inn.about(8), 71);
        due(10, "cornice", inn.cell(3, 0, 0), 5);
        due(10, "others", inn.cell(0, 0, 0) + inn.cell(3, 1, 0), 4);
        AvalancheInn calm = inn("wind 71;falls 2;");
        calm.hour();
        due(10, "71 is not below 71", calm.cell(3, 0, 0), 2);
        AvalancheInn windy = inn("lanes 1;rows 1;falls 0;lies 0 0 snow 1;wind 100;room a lane 0 bears 3;tips snow > 3;");
        due(20, "will(1, 0)", windy.will(1, 0), 0);
        due(20, "will(1, 1)", windy.will(1, 1), 1);
        due(20, "will(60, 0)", windy.will(60, 0), 0);
        due(20, "will(61, 0)", windy.will(61, 0), -1);
        due(20, "will(-1, 0)", windy.will(-1, 0), -1);
        due(20, "will(1, 2)", windy.will(1, 2), -1);
        due(20, "will(1, -1)", windy.will(1, -1), -1);
        due(20, "will(0, 1)", windy.will(0, 1), 0);
        due(20, "nothing is done", windy.about(7), 0);
        due(25, "no wind", windy.next(), -1);
        due(21, "no wind", windy.depth(0, 0, 5), 1);
    }

    private static void shouts() {
        AvalancheInn inn = inn(INN);
        due(11, "shout(2, 1)", inn.shout(2, 1), -1);
        due(11, "shout(-1, 1)", inn.shout(-1, 1), -1);
        due(11, "shout(0, 100)", inn.shout(0, 100), -1);
        due(11, "shout(0, -1)", inn.shout(0, -1), -1);
        due(11, "no act", inn.about(9), 0);
        // 6 * 5 + 8 - 40 = -2
        due(11, "shout(0, 2)", inn.shout(0, 2), 0);
        due(11, "an act all the same", inn.about(9), 1);
        due(11, "snow stays", inn.cell(0, 0, 0), 6);
        due(11, "shout(0, 3)", inn.shout(0, 3), 1);
        due(11, "no hour", inn.about(7), 0);
        due(11, "no purse", inn.about(6), 0);
        due(11, "snow is gone", inn.heap(0), 0);
        due(11, "the other lane stays", inn.heap(1), 2);
    }

    private static void roomActs() {
        AvalancheInn inn = inn(INN);
        due(12, "move(0, 0)", inn.move(0, 0), -1);
        due(12, "move(0, 2)", inn.move(0, 2), -1);
        due(12, "move(0, -1)", inn.move(0, -1), -1);
        due(12, "move(2, 0)", inn.move(2, 0), -1);
        due(12, "move(-1, 0)", inn.move(-1, 0), -1);
        due(12, "move(1, 0)", inn.move(1, 0), 1);
        due(12, "room(1, 0)", inn.room(1, 0), 0);
        due(13, "build(0)", inn.build(0), -1);
        due(13, "build(2)", inn.build(2), -1);
        due(13, "build(-1)", inn.build(-1), -1);
        due(12, "acts", inn.about(9), 1);
        due(10, "hour()", inn.hour(), 1);
        due(12, "move of a gone one", inn.move(0, 1), -1);
        due(13, "build(0)", inn.build(0), 2);
        due(13, "room(0, 3)", inn.room(0, 3), 1);
        due(13, "room(0, 0)", inn.room(0, 0), 0);
        due(13, "build(0) again", inn.build(0), -1);
    }

    private static void guestActs() {
        AvalancheInn inn = inn(INN);
        due(15, "let(0)", inn.let(0), -1);
        due(14, "hush(1)", inn.hush(1), 2);
        due(14, "hush(0)", inn.hush(0), 3);
        due(14, "hush(0) again", inn.hush(0), -1);
        due(14, "hush(2)", inn.hush(2), -1);
        due(14, "hush(-1)", inn.hush(-1), -1);
        due(14, "guest(0, 4)", inn.guest(0, 4), 1);
        due(14, "noise(0)", inn.noise(0), 0);
        due(15, "let(1)", inn.let(1), 1);
        due(15, "let(1) again", inn.let(1), -1);
        due(15, "let(2)", inn.let(2), -1);
        due(15, "let(-1)", inn.let(-1), -1);
        due(15, "acts", inn.about(9), 3);
        due(52, "about(5)", inn.about(5), 1);
        due(10, "ann is hushed: 7 * 5 - 40", inn.hour(), 0);
    }

    private static void cellActs() {
        AvalancheInn inn = inn(INN);
        due(16, "wall(1, 1, 1)", inn.wall(1, 1, 1), -1);
        due(16, "wall(1, 1, 2)", inn.wall(1, 1, 2), 1);
        due(16, "aside then", inn.track(1, 0, 0), -1);
        due(16, "wall(1, 1, 0)", inn.wall(1, 1, 0), 2);
        due(16, "straight then", inn.track(1, 0, 0), 1);
        due(16, "wall(0, 0, 3)", inn.wall(0, 0, 3), -1);
        due(16, "wall(0, 0, -1)", inn.wall(0, 0, -1), -1);
        due(16, "wall(2, 0, 1)", inn.wall(2, 0, 1), -1);
        due(16, "wall(0, 2, 1)", inn.wall(0, 2, 1), -1);
        due(17, "shovel(1, 1)", inn.shovel(1, 1), -1);
        due(17, "shovel(0, 0)", inn.shovel(0, 0), 6);
        due(17, "shovel(0, 0) again", inn.shovel(0, 0), -1);
        due(17, "shovel(2, 0)", inn.shovel(2, 0), -1);
        due(17, "shovel(0, -1)", inn.shovel(0, -1), -1);
        due(17, "cell(0, 0, 0)", inn.cell(0, 0, 0), 0);
        due(17, "acts", inn.about(9), 3);
    }

    private static void undoRedo() {
        AvalancheInn inn = inn(INN);
        inn.hour();
        inn.hush(0);
        due(18, "undo()", inn.undo(), true);
        due(18, "about(5)", inn.about(5), 0);
        due(18, "about(10)", inn.about(10), 1);
        due(18, "undo()", inn.undo(), true);
        int[] first = {2, 2, 2, 2, 0, 0, 0, 0, 7, 0, 2};
        for (int i = 0; i < first.length; i++) {
            due(18, "about(" + i + ")", inn.about(i), first[i]);
        }
        due(18, "snow is back", inn.cell(0, 0, 0), 6);
        due(18, "undo()", inn.undo(), false);
        due(19, "redo()", inn.redo(), true);
        due(19, "gone again", inn.about(4), 1);
        due(19, "seed again", inn.about(8), 30);
        due(19, "about(9)", inn.about(9), 1);
        inn.shovel(1, 0);
        due(19, "another act", inn.redo(), false);
        due(19, "about(10)", inn.about(10), 0);
        due(18, "undo()", inn.undo(), true);
        due(19, "what can't be is no act", inn.shovel(0, 0), -1);
        due(19, "redo()", inn.redo(), true);
        AvalancheInn many = inn("lanes 1;rows 1;falls 0;");
        for (int i = 0; i < 45; i++) {
            many.hour();
        }
        due(18, "40 are kept", many.about(9), 40);
        for (int i = 0; i < 40; i++) {
            due(18, "undo()", many.undo(), true);
        }
        due(18, "the oldest went", many.undo(), false);
        due(18, "hour", many.about(7), 5);
        due(18, "about(10)", many.about(10), 40);
        for (int i = 0; i < 40; i++) {
            due(19, "redo()", many.redo(), true);
        }
        due(19, "redo()", many.redo(), false);
        due(19, "hour", many.about(7), 45);
    }

    private static void forecasts() {
        AvalancheInn inn = inn(INN);
        due(21, "depth(0, 0, 0)", inn.depth(0, 0, 0), 6);
        due(21, "depth(0, 0, 1)", inn.depth(0, 0, 1), 0);
        due(21, "depth(1, 0, 1)", inn.depth(1, 0, 1), 3);
        due(21, "depth(0, 0, 61)", inn.depth(0, 0, 61), -1);
        due(21, "depth(0, 0, -1)", inn.depth(0, 0, -1), -1);
        due(21, "depth(2, 0, 1)", inn.depth(2, 0, 1), -1);
        due(21, "depth(0, 2, 1)", inn.depth(0, 2, 1), -1);
        due(22, "left(0)", inn.left(0), 5);
        due(22, "left(1)", inn.left(1), 1);
        due(22, "left(61)", inn.left(61), -1);
        due(22, "left(-1)", inn.left(-1), -1);
        due(23, "purse(0)", inn.purse(0), 0);
        due(23, "purse(3)", inn.purse(3), 3);
        due(23, "purse(61)", inn.purse(61), -1);
        due(23, "purse(-1)", inn.purse(-1), -1);
        due(24, "when(0)", inn.when(0), 1);
        due(24, "when(1)", inn.when(1), 21);
        due(24, "when(2)", inn.when(2), -1);
        due(24, "when(-1)", inn.when(-1), -1);
        due(38, "poor()", inn.poor(), 0);
        due(25, "next()", inn.next(), 1);
        due(26, "first(0)", inn.first(0), 1);
        due(26, "first(2)", inn.first(2), -1);
        due(26, "first(-1)", inn.first(-1), -1);
        inn.hour();
        due(24, "when(0): gone now", inn.when(0), 0);
        due(23, "purse(2) from 1 on", inn.purse(2), 3);
        due(38, "poor(): gone now", inn.poor(), 0);
        due(20, "will(0, 0)", inn.will(0, 0), 1);
        // never: nothing falls
        AvalancheInn calm = inn("lanes 2;rows 1;falls 0;lies 0 0 snow 5;room a lane 0 bears 4;room b lane 0 bears 4;"
                + "tips hour = 59;");
        due(24, "in the 60th", calm.when(1), 60);
        due(38, "of like ones the first", calm.poor(), 0);
        due(25, "in the 60th", calm.next(), 60);
        due(26, "in the 60th", calm.first(0), 60);
        due(26, "none on lane 1", calm.first(1), -1);
        due(22, "left(60)", calm.left(60), 0);
        due(22, "left(59)", calm.left(59), 2);
        AvalancheInn later = inn("lanes 1;rows 1;falls 0;lies 0 0 snow 5;room a lane 0 bears 4;tips hour = 60;");
        due(24, "not in these", later.when(0), -1);
        due(25, "not in these", later.next(), -1);
        due(26, "not in these", later.first(0), -1);
        due(38, "not in these", later.poor(), -1);
        // a slide that goes aside tips, but comes on no lane
        AvalancheInn aside = inn("lanes 1;rows 2;falls 0;lies 0 0 snow 5;wall 0 1 left;tips 1;");
        due(25, "next()", aside.next(), 1);
        due(26, "first(0)", aside.first(0), -1);
    }

    private static void tracks() {
        AvalancheInn inn = inn(INN);
        due(27, "track(0, 0, 1)", inn.track(0, 0, 1), 9);
        due(27, "track(0, 1, 1)", inn.track(0, 1, 1), 3);
        due(27, "track(1, 0, 0)", inn.track(1, 0, 0), 0);
        due(27, "track(1, 0, 1)", inn.track(1, 0, 1), 5);
        due(27, "track(1, 1, 0): its own wall turns nothing", inn.track(1, 1, 0), 1);
        due(27, "track(1, 1, 1): no snow", inn.track(1, 1, 1), 0);
        due(27, "track(2, 0, 0)", inn.track(2, 0, 0), -2);
        due(27, "track(0, 2, 0)", inn.track(0, 2, 0), -2);
        due(27, "track(-1, 0, 0)", inn.track(-1, 0, 0), -2);
        due(27, "track(0, 0, 2)", inn.track(0, 0, 2), -2);
        due(27, "track(0, 0, -1)", inn.track(0, 0, -1), -2);
        due(27, "nothing is done", inn.cell(0, 0, 0), 6);
    }

    private static void loudness() {
        AvalancheInn inn = inn(INN);
        due(28, "least(0)", inn.least(0), 3);
        due(28, "least(1): 2 * 5 - 40", inn.least(1), 31);
        due(28, "least(2)", inn.least(2), -1);
        due(28, "least(-1)", inn.least(-1), -1);
        due(37, "borne(0)", inn.borne(0), 2);
        due(37, "borne(1)", inn.borne(1), 30 + 69);
        due(37, "borne(2)", inn.borne(2), -1);
        due(37, "borne(-1)", inn.borne(-1), -1);
        due(28, "nothing is done", inn.about(9), 0);
        // neither grows with the shout: it tips at 10 .. 19 alone
        AvalancheInn odd = inn("lanes 1;rows 1;lies 0 0 snow 5;room a lane 0 bears 4;tips noise / 10 = 1;");
        due(28, "least(0)", odd.least(0), 10);
        due(37, "borne(0)", odd.borne(0), 99);
        AvalancheInn any = inn("lanes 1;rows 1;lies 0 0 snow 5;room a lane 0 bears 4;tips 1;");
        due(28, "least(0)", any.least(0), 0);
        due(37, "by none", any.borne(0), -1);
        AvalancheInn most = inn("lanes 1;rows 1;lies 0 0 snow 5;room a lane 0 bears 4;tips noise < 99;");
        due(37, "99", most.borne(0), 99);
        AvalancheInn top = inn("lanes 1;rows 1;lies 0 0 snow 5;tips noise = 99;");
        due(28, "99", top.least(0), 99);
        due(28, "100", inn("lanes 1;rows 1;lies 0 0 snow 5;tips noise = 100;").least(0), -1);
        any.hour();
        due(37, "gone ones don't go by it", any.borne(0), 99);
    }

    private static void places() {
        AvalancheInn inn = inn(INN);
        due(29, "places(1)", inn.places(1), 5);
        due(43, "lies(0)", inn.lies(0), 1);
        due(43, "lies(1)", inn.lies(1), 0);
        due(43, "lies(2)", inn.lies(2), -2);
        due(43, "lies(-1)", inn.lies(-1), -2);
        due(29, "places(0)", inn.places(0), 5);
        due(29, "the first", inn.lies(0) + inn.lies(1), 0);
        due(29, "places(25)", inn.places(25), -1);
        due(29, "nothing lies there", inn.about(15), 0);
        due(29, "places(-1)", inn.places(-1), -1);
        due(29, "no act", inn.about(9), 0);
        due(29, "rooms stay", inn.room(0, 0), 0);
        inn.hour();
        due(29, "places(2): the gable is gone", inn.places(2), 1);
        due(29, "it stays where it was", inn.lies(0), 0);
        // singers apart: two in one lane tip it
        AvalancheInn apart = inn("lanes 2;rows 1;falls 0;lies 0 0 snow 9;lies 1 0 snow 9;room a lane 1 bears 1 rate 2;"
                + "room b lane 1 bears 1 rate 3;room c lane 1 bears 9;guest x room a noise 9 from 0 to 47;"
                + "guest y room b noise 9 from 0 to 47;tips noise > 9;");
        due(29, "places(24)", apart.places(24), 6);
        due(29, "a", apart.lies(0), 0);
        due(29, "b", apart.lies(1), 1);
        due(29, "c", apart.lies(2), 0);
        due(29, "about(15)", apart.about(15), 3);
        // the still room comes first: that it is in lane 0 counts more than where the loud one is
        AvalancheInn order = inn("lanes 2;rows 1;falls 0;lies 0 0 snow 9;lies 1 0 snow 9;room a lane 1 bears 1;"
                + "room b lane 1 bears 9;guest y room b noise 9 from 0 to 47;tips noise > 8;");
        due(29, "places(1)", order.places(1), 2);
        due(29, "a", order.lies(0), 0);
        due(29, "b", order.lies(1), 1);
    }

    private static void hushes() {
        AvalancheInn inn = inn(INN);
        due(30, "quiet(1, 0)", inn.quiet(1, 0), 1);
        due(30, "quiet(1, 1)", inn.quiet(1, 1), 1);
        due(30, "quiet(0, 0)", inn.quiet(0, 0), 0);
        due(30, "quiet(0, 1)", inn.quiet(0, 1), 0);
        due(30, "quiet(24, 0): snow falls all the same", inn.quiet(24, 0), -1);
        due(30, "quiet(25, 0)", inn.quiet(25, 0), -1);
        due(30, "quiet(-1, 0)", inn.quiet(-1, 0), -1);
        due(30, "quiet(1, 2)", inn.quiet(1, 2), -1);
        due(30, "quiet(1, -1)", inn.quiet(1, -1), -1);
        due(30, "nothing is done", inn.about(5), 0);
        inn.hush(0);
        due(30, "hushed already", inn.quiet(1, 1), 0);
        AvalancheInn choir = inn("lanes 1;rows 1;falls 0;lies 0 0 snow 9;room a lane 0 bears 1;"
                + "guest p room a noise 4 from 0 to 47;guest q room a noise 6 from 0 to 47;"
                + "guest r room a noise 6 from 0 to 47;tips noise > 10;");
        due(30, "the least set", choir.quiet(24, 1), 2);
        due(30, "how many", choir.quiet(24, 0), 1);
        choir.hush(2);
        due(30, "none more", choir.quiet(24, 1), 0);
        AvalancheInn pair = inn("lanes 1;rows 1;falls 0;lies 0 0 snow 9;room a lane 0 bears 1;"
                + "guest p room a noise 4 from 0 to 47;guest q room a noise 6 from 0 to 47;"
                + "guest r room a noise 6 from 0 to 47;tips noise > 5;");
        due(30, "two", pair.quiet(3, 0), 2);
        due(30, "who", pair.quiet(3, 1), 6);
        pair.shout(0, 0);
        due(30, "gone ones need none", pair.quiet(3, 1), 0);
    }

    private static void dams() {
        AvalancheInn inn = inn(INN);
        int[] dam = {0, 1, 1, 5, -1};
        for (int i = 0; i < 5; i++) {
            due(31, "dam(1, " + i + ")", inn.dam(1, i), dam[i]);
        }
        due(31, "dam(1, -1)", inn.dam(1, -1), -1);
        due(31, "dam(25, 0)", inn.dam(25, 0), -1);
        due(31, "dam(-1, 0)", inn.dam(-1, 0), -1);
        due(31, "dam(0, 0): no more than now", inn.dam(0, 0), -1);
        due(31, "nothing is done", inn.cell(0, 1, 1), 0);
        // to the left it would come on the room in lane 0: the right is better
        AvalancheInn right = inn("lanes 3;rows 2;falls 0;lies 1 0 snow 5;room a lane 0 bears 1;room b lane 1 bears 1;"
                + "tips row = 0;");
        due(31, "dam(1, 0)", right.dam(1, 0), 1);
        due(31, "dam(1, 1)", right.dam(1, 1), 1);
        due(31, "dam(1, 2)", right.dam(1, 2), 2);
        due(31, "dam(1, 3)", right.dam(1, 3), 2);
        due(31, "dam(24, 3)", right.dam(24, 3), 2);
        // the cell has a wall already
        AvalancheInn walled = inn("lanes 2;rows 2;falls 0;lies 1 0 snow 5;wall 1 1 left;room a lane 0 bears 1;"
                + "tips row = 0;");
        due(31, "not another wall there", walled.dam(1, 0), -1);
    }

    private static void brunts() {
        AvalancheInn inn = inn(INN);
        due(32, "brunt(0, 0)", inn.brunt(0, 0), 0);
        due(32, "brunt(0, 1)", inn.brunt(0, 1), 11);
        due(32, "brunt(1, 1)", inn.brunt(1, 1), 0);
        due(32, "brunt(2, 1)", inn.brunt(2, 1), -1);
        due(32, "brunt(-1, 1)", inn.brunt(-1, 1), -1);
        due(32, "brunt(0, 61)", inn.brunt(0, 61), -1);
        due(32, "brunt(0, -1)", inn.brunt(0, -1), -1);
        due(33, "gable(0)", inn.gable(0), 0);
        due(33, "gable(1)", inn.gable(1), 1);
        due(33, "gable(61)", inn.gable(61), -1);
        due(33, "gable(-1)", inn.gable(-1), -1);
        AvalancheInn often = inn("lanes 2;rows 1;falls 2;tips snow > 3;");
        due(32, "each second hour", often.brunt(1, 60), 120);
        due(33, "of like ones the first", often.gable(60), 0);
    }

    private static void shovels() {
        AvalancheInn inn = inn(INN);
        due(34, "dig(1, 0)", inn.dig(1, 0), 0);
        due(34, "dig(1, 1)", inn.dig(1, 1), 0);
        due(34, "dig(1, 2)", inn.dig(1, 2), 5);
        due(34, "dig(1, 3)", inn.dig(1, 3), -1);
        due(34, "dig(1, -1)", inn.dig(1, -1), -1);
        due(34, "dig(25, 0)", inn.dig(25, 0), -1);
        due(34, "dig(-1, 0)", inn.dig(-1, 0), -1);
        due(34, "nothing is done", inn.cell(0, 0, 0), 6);
        AvalancheInn lower = inn("lanes 2;rows 2;falls 0;lies 1 0 snow 5;lies 1 1 snow 5;room a lane 1 bears 5;"
                + "room b lane 1 bears 4;tips row = 0;");
        due(34, "lane", lower.dig(1, 0), 1);
        due(34, "row", lower.dig(1, 1), 0);
        due(34, "left", lower.dig(1, 2), 2);
    }

    private static void duels() {
        // both in one room that goes if both sing: 12 - 25 for either, so one sings and one does not
        AvalancheInn inn = inn("lanes 1;rows 1;falls 0;lies 0 0 snow 9;room a lane 0 bears 1;"
                + "guest p room a noise 12 from 0 to 47;guest q room a noise 12 from 0 to 47;tips noise > 12;");
        due(35, "duel(0, 1)", inn.duel(0, 1), 2);
        due(35, "p is still", inn.lies(0), 0);
        due(35, "q sings", inn.lies(1), 1);
        due(35, "two lie there", inn.about(15), 2);
        due(35, "duel(0, 0)", inn.duel(0, 0), -1);
        due(35, "nothing lies there", inn.about(15), 0);
        due(35, "duel(0, 2)", inn.duel(0, 2), -1);
        due(35, "duel(-1, 0)", inn.duel(-1, 0), -1);
        inn.hush(0);
        due(35, "hushed or not, it may sing", inn.duel(1, 0), 2);
        due(35, "nothing is done", inn.about(5), 1);
        inn.let(0);
        inn.shout(0, 0);
        due(35, "the room is gone: both sing", inn.duel(0, 1), 1);
        due(35, "p", inn.lies(0), 1);
        due(35, "q", inn.lies(1), 1);
        // noise 0 is as good as none
        AvalancheInn mute = inn("room a lane 0 bears 99;guest p room a noise 0 from 0 to 0;"
                + "guest q room a noise 0 from 0 to 0;");
        due(35, "all rest", mute.duel(0, 1), 4);
        due(35, "the least numbers", mute.lies(0) + mute.lies(1), 0);
        // loud enough to sing though the room goes
        AvalancheInn loud = inn("lanes 2;rows 1;falls 0;lies 0 0 snow 9;room a lane 0 bears 1;room b lane 1 bears 1;"
                + "guest p room a noise 26 from 0 to 47;guest q room b noise 1 from 0 to 47;tips noise > 12;");
        due(35, "one", loud.duel(0, 1), 1);
        due(35, "p sings", loud.lies(0), 1);
        due(35, "q sings", loud.lies(1), 1);
        AvalancheInn apart = inn("lanes 2;rows 2;falls 0;lies 0 1 snow 9;lies 1 1 snow 9;room a lane 0 bears 1;"
                + "room b lane 1 bears 1;guest p room a noise 10 from 0 to 47;guest q room b noise 10 from 0 to 47;"
                + "tips noise = 10;");
        due(35, "each is best hushed", apart.duel(0, 1), 1);
        due(35, "p", apart.lies(0), 0);
        due(35, "q", apart.lies(1), 0);
        // one alone brings 9 down, by which p's room goes, both bring 14, by which both go: by turns each has more
        // by the other way
        AvalancheInn none = inn("lanes 2;rows 2;falls 0;lies 0 0 snow 5;lies 0 1 snow 9;room a lane 0 bears 1;"
                + "room b lane 0 bears 12;guest p room a noise 15 from 0 to 1;guest q room b noise 14 from 0 to 7;");
        none.places(1);
        due(35, "none rests", none.duel(0, 1), 0);
        due(35, "nothing lies there", none.about(15), 0);
        // gone behind 6, not behind 5; and not behind 7
        AvalancheInn sixth = inn("lanes 1;rows 1;falls 0;lies 0 0 snow 9;room a lane 0 bears 1;room b lane 0 bears 99;"
                + "guest p room a noise 12 from 0 to 47;guest q room b noise 1 from 0 to 47;tips noise > 11 and hour = 5;");
        due(35, "in the sixth", sixth.duel(0, 1), 1);
        due(35, "p is still", sixth.lies(0), 0);
        AvalancheInn seventh = inn("lanes 1;rows 1;falls 0;lies 0 0 snow 9;room a lane 0 bears 1;room b lane 0 bears 99;"
                + "guest p room a noise 12 from 0 to 47;guest q room b noise 1 from 0 to 47;tips noise > 11 and hour = 6;");
        due(35, "in the seventh", seventh.duel(0, 1), 1);
        due(35, "p sings", seventh.lies(0), 1);
    }

    /** With wind all would go in the first hour; what is foreseen has none. */
    private static void windless() {
        AvalancheInn inn = inn("lanes 1;rows 2;falls 0;lies 0 0 snow 1;wind 100;room a lane 0 bears 3;"
                + "guest p room a noise 5 from 0 to 47;guest q room a noise 6 from 0 to 47;tips snow > 3;");
        due(22, "left(60)", inn.left(60), 1);
        due(23, "purse(60)", inn.purse(60), 60);
        due(24, "when(0)", inn.when(0), -1);
        due(26, "first(0)", inn.first(0), -1);
        due(29, "places(24)", inn.places(24), 1);
        due(30, "quiet(24, 0)", inn.quiet(24, 0), 0);
        due(31, "dam(24, 0)", inn.dam(24, 0), -1);
        due(32, "brunt(0, 60)", inn.brunt(0, 60), 0);
        due(34, "dig(24, 2)", inn.dig(24, 2), 1);
        due(35, "duel(0, 1)", inn.duel(0, 1), 1);
        due(35, "both sing", inn.lies(0) + inn.lies(1), 2);
        due(38, "poor()", inn.poor(), -1);
        due(41, "law(0)", inn.law(0), 1);
        due(44, "seen", inn.seen(24, 0, true), 0);
        due(47, "4 and more", inn.fits(0), 27);
        due(48, "sure(0, 0)", inn.sure(0, 0), 4);
        due(10, "hour(): with wind", inn.hour(), 1);
        AvalancheInn sung = inn("lanes 1;rows 2;falls 0;lies 0 0 snow 1;wind 100;room a lane 0 bears 3;"
                + "guest p room a noise 5 from 0 to 47;guest q room a noise 6 from 0 to 47;tips snow > 3 and noise > 5;");
        due(29, "places(24)", sung.places(24), 1);
        due(30, "quiet(24, 0)", sung.quiet(24, 0), 0);
        due(35, "duel(0, 1)", sung.duel(0, 1), 1);
        due(35, "both sing", sung.lies(0) + sung.lies(1), 2);
    }

    private static void fears() {
        AvalancheInn inn = inn(INN);
        due(36, "fear(0)", inn.fear(0), 0);
        due(36, "fear(1)", inn.fear(1), 0);
        due(36, "fear(2)", inn.fear(2), -1);
        due(36, "fear(-1)", inn.fear(-1), -1);
        AvalancheInn lower = inn("lanes 2;rows 2;lies 0 0 snow 9;wall 0 1 left;lies 1 1 snow 3;");
        due(36, "aside brings nothing", lower.fear(0), 1);
        due(36, "the first of like ones", lower.fear(1), 0);
        AvalancheInn row = inn("lanes 2;rows 2;lies 0 1 snow 9;wall 0 1 left;");
        due(36, "lane", row.fear(0), 0);
        due(36, "row", row.fear(1), 1);
        due(36, "no snow", new AvalancheInn().fear(0), 0);
    }

    private static void guestHours() {
        AvalancheInn inn = inn(INN);
        due(39, "awake(0)", inn.awake(0), 1);
        due(39, "awake(2)", inn.awake(2), 3);
        due(39, "awake(3)", inn.awake(3), 3);
        due(39, "awake(4)", inn.awake(4), 1);
        due(39, "awake(5)", inn.awake(5), 1);
        due(39, "awake(6)", inn.awake(6), 0);
        due(39, "awake(47)", inn.awake(47), 0);
        due(39, "awake(48)", inn.awake(48), -1);
        due(39, "awake(-1)", inn.awake(-1), -1);
        inn.hush(1);
        due(39, "bob is hushed", inn.awake(2), 1);
        inn.hour();
        due(39, "ann's room is gone", inn.awake(2), 0);
    }

    private static void laws() {
        AvalancheInn inn = inn("lanes 1;rows 1;falls 9;room a lane 0 bears 6 rate 7;tips snow > 5;");
        due(41, "law(0)", inn.law(0), 7);
        due(41, "law(1): 6 at a time", inn.law(1), 7);
        due(41, "law(4): 8 at a time", inn.law(4), 0);
        due(41, "law(9)", inn.law(9), 0);
        due(41, "law(10)", inn.law(10), -1);
        due(41, "law(-1)", inn.law(-1), -1);
        due(41, "falls stay", inn.about(16), 9);
    }

    private static void odds() {
        AvalancheInn inn = inn("wind 30;");
        due(42, "odds(0, 0)", inn.odds(0, 0), 1);
        due(42, "odds(0, 1)", inn.odds(0, 1), 1);
        due(42, "odds(1, 0)", inn.odds(1, 0), 7);
        due(42, "odds(1, 1)", inn.odds(1, 1), 10);
        due(42, "odds(4, 0)", inn.odds(4, 0), 2401);
        due(42, "odds(4, 1)", inn.odds(4, 1), 10000);
        due(42, "odds(5, 0)", inn.odds(5, 0), -1);
        due(42, "odds(-1, 0)", inn.odds(-1, 0), -1);
        due(42, "odds(1, 2)", inn.odds(1, 2), -1);
        due(42, "odds(1, -1)", inn.odds(1, -1), -1);
        AvalancheInn all = inn("wind 100;");
        due(42, "0", all.odds(3, 0), 0);
        due(42, "of 1", all.odds(3, 1), 1);
        due(42, "no hours", all.odds(0, 0), 1);
        AvalancheInn odd = inn("wind 1;");
        due(42, "99 ^ 4", odd.odds(4, 0), 96059601);
        due(42, "100 ^ 4", odd.odds(4, 1), 100000000);
        AvalancheInn none = inn("wind 0;");
        due(42, "1", none.odds(4, 0), 1);
        due(42, "of 1", none.odds(4, 1), 1);
    }

    private static void seen() {
        // behind 1 hour it is gone by 6 .. 30; by 5: 6 come, which it bears; by 0 .. 4 later, by 6 as well
        AvalancheInn inn = inn("lanes 1;rows 1;lies 0 0 snow 3;room a lane 0 bears 6;tips snow - 5;");
        due(47, "fits(0)", inn.fits(0), 31);
        due(49, "ask(0, 0)", inn.ask(0, 0), 1);
        due(49, "ask(1, 0)", inn.ask(1, 0), 25);
        due(49, "ask(2, 0)", inn.ask(2, 0), -1);
        due(49, "ask(-1, 0)", inn.ask(-1, 0), -1);
        due(44, "seen(25, 0, true)", inn.seen(25, 0, true), -1);
        due(44, "seen(-1, 0, true)", inn.seen(-1, 0, true), -1);
        due(44, "seen(1, 1, true)", inn.seen(1, 1, true), -1);
        due(44, "seen(1, -1, true)", inn.seen(1, -1, true), -1);
        due(46, "later(3)", inn.later(3), 3);
        due(44, "seen(1, 0, true)", inn.seen(1, 0, true), 0);
        due(47, "fits(2): not known then", inn.fits(2), 31);
        due(47, "fits(3)", inn.fits(3), 25);
        due(48, "sure(0, 3)", inn.sure(0, 3), 6);
        due(48, "sure(1, 3)", inn.sure(1, 3), 30);
        due(48, "sure(2, 3)", inn.sure(2, 3), -1);
        due(48, "sure(-1, 3)", inn.sure(-1, 3), -1);
        due(46, "later(0)", inn.later(0), 3);
        due(46, "later(1001)", inn.later(1001), -1);
        due(46, "later(-1)", inn.later(-1), -1);
        due(46, "later(1000)", inn.later(1000), 1003);
        due(44, "seen(24, 0, false)", inn.seen(24, 0, false), 1);
        due(47, "none", inn.fits(1003), 0);
        due(48, "none", inn.sure(0, 1003), -1);
        due(49, "none", inn.ask(0, 1003), -1);
        due(45, "untell(0)", inn.untell(0), true);
        due(45, "untell(0) again", inn.untell(0), false);
        due(45, "untell(2)", inn.untell(2), false);
        due(45, "untell(-1)", inn.untell(-1), false);
        due(47, "fits(1003)", inn.fits(1003), 6);
        due(48, "sure(1, 1003)", inn.sure(1, 1003), 5);
        due(47, "known before", inn.fits(1002), 25);
        due(47, "never known", inn.fits(-1), 31);
        due(47, "known long since", inn.fits(Integer.MAX_VALUE), 6);
        due(45, "untell(1) at the same time", inn.untell(1), true);
        due(47, "fits(1003)", inn.fits(1003), 31);
        due(52, "about(11)", inn.about(11), 2);
        for (int i = 2; i < 30; i++) {
            due(44, "seen " + i, inn.seen(0, 0, false), i);
        }
        due(44, "there are 30", inn.seen(0, 0, false), -1);
        // acts change nothing of it, nor does the snow told at the top of the last lane
        inn.hour();
        inn.shovel(0, 0);
        due(47, "as it was told", inn.fits(2), 31);
        due(49, "as it was told", inn.ask(1, 0), 25);
        AvalancheInn time = new AvalancheInn();
        for (int i = 1; i <= 100; i++) {
            due(46, "later(1000)", time.later(1000), 1000 * i);
        }
        due(46, "above 100,000", time.later(1), -1);
        due(46, "100,000", time.later(0), 100000);
        due(52, "about(12)", time.about(12), 100000);
        // the last lane, its first row: lane 0 has what was told
        AvalancheInn last = inn("lanes 2;rows 2;falls 0;lies 0 0 snow 9;lies 1 1 snow 2;room a lane 0 bears 1;"
                + "room b lane 1 bears 11;tips row = 0;");
        due(44, "seen", last.seen(1, 1, false), 0);
        due(47, "0 .. 9 and 2", last.fits(0), 10);
        due(44, "seen", last.seen(1, 0, false), 1);
        due(47, "a went for sure", last.fits(0), 0);
    }

    private static void boxes() {
        AvalancheInn inn = inn(INN);
        due(51, "back(0)", inn.back(0), -1);
        inn.hush(1);
        due(50, "image(0)", inn.image(0), 0);
        inn.hour();
        inn.wall(0, 0, 2);
        inn.move(1, 0);
        due(50, "image(2)", inn.image(2), 1);
        due(50, "image(3)", inn.image(3), -1);
        due(50, "image(-1)", inn.image(-1), -1);
        due(50, "no act", inn.about(9), 4);
        inn.hour();
        due(51, "back(1)", inn.back(1), -1);
        due(51, "back(3)", inn.back(3), -1);
        due(51, "back(-1)", inn.back(-1), -1);
        due(51, "doing nothing", inn.about(9), 5);
        due(51, "back(2)", inn.back(2), 1);
        due(51, "no acts", inn.about(9), 0);
        due(51, "wall", inn.cell(0, 0, 1), 2);
        due(51, "lane", inn.room(1, 0), 0);
        due(51, "gone", inn.about(4), 1);
        due(51, "seed", inn.about(8), 30);
        due(51, "purse", inn.about(6), 1);
        inn.hour();
        inn.undo();
        due(51, "back(0)", inn.back(0), 0);
        due(51, "nothing to redo", inn.redo(), false);
        due(51, "hushed", inn.about(5), 2);
        due(51, "gone", inn.about(4), 0);
        due(51, "snow", inn.cell(0, 0, 0), 6);
        due(51, "wall", inn.cell(0, 0, 1), 0);
        inn.hour();
        due(51, "back(0) again: gone on from", inn.back(0), 0);
        due(51, "snow", inn.cell(0, 0, 0), 6);
        inn.hour();
        due(50, "image(0) anew", inn.image(0), 1);
        inn.hour();
        due(51, "back(0)", inn.back(0), 1);
    }

    private static void abouts() {
        AvalancheInn inn = inn(INN);
        inn.hour();
        inn.hour();
        inn.hush(1);
        inn.undo();
        inn.seen(3, 1, false);
        inn.later(7);
        inn.places(2);
        inn.feed(0, 0, 0, 0, 0);
        // seed 30 becomes 4181: 181
        int[] about = {2, 2, 2, 2, 1, 0, 2, 2, 181, 2, 1, 1, 7, 20, 0, 2, 1, 30, -1};
        for (int i = 0; i < about.length; i++) {
            due(52, "about(" + i + ")", inn.about(i), about[i]);
        }
        due(52, "about(-1)", inn.about(-1), -1);
    }
}
