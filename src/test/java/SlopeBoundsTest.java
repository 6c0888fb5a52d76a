import java.util.function.ToIntFunction;

/** The bounds of the slope and of acts on it (promises 6 to 19, 40, 50 to 52; ==== 2), sentence by sentence. */
public final class SlopeBoundsTest {
    private static final Checks CHECKS = new Checks();
    private static final int[] FAR_OFF = {Integer.MIN_VALUE, -1000, Integer.MAX_VALUE, 1000, 1 << 16, 1 << 31 >>> 1};

    public static void main(String[] args) {
        newObject();
        cells();
        roomsAndGuests();
        noisesAndHeaps();
        snowAtMost();
        loads();
        noiseByHours();
        tipsAboveNothing();
        formulaEdges();
        wallsAside();
        orderOfAnHour();
        seedAndWind();
        hourActs();
        shouts();
        moves();
        builds();
        hushes();
        wallActs();
        shovels();
        keptActs();
        everyActUndone();
        whatIsNoAct();
        boxes();
        abouts();
        lastCall();
        CHECKS.finish();
    }

    private static void newObject() {
        CHECKS.sentence("1: an empty PASS (4 lanes, 3 rows)");
        AvalancheInn inn = new AvalancheInn();
        CHECKS.due("cell(3, 2, 0)", inn.cell(3, 2, 0), 0);
        CHECKS.due("cell(4, 2, 0)", inn.cell(4, 2, 0), -1);
        CHECKS.due("cell(3, 3, 0)", inn.cell(3, 3, 0), -1);
        CHECKS.due("room(0, 0)", inn.room(0, 0), -1);
        CHECKS.due("guest(0, 0)", inn.guest(0, 0), -1);
        AvalancheInn told = CHECKS.inn("");
        CHECKS.same("a new object", View.whole(new AvalancheInn()), View.whole(told));
    }

    private static void cells() {
        CHECKS.sentence("6: NONE if there is none such, or for another what");
        for (int lane = 0; lane < 2; lane++) {
            for (int row = 0; row < 2; row++) {
                refuseWhats(lane, row);
            }
        }
        for (int other : FAR_OFF) {
            CHECKS.leaves("cell(" + other + ", 0, 0)", x -> x.cell(other, 0, 0), -1);
            CHECKS.leaves("cell(0, " + other + ", 0)", x -> x.cell(0, other, 0), -1);
        }
        for (int what = 0; what < 4; what++) {
            int asked = what;
            CHECKS.leaves("cell(-1, 0, " + what + ")", x -> x.cell(-1, 0, asked), -1);
            CHECKS.leaves("cell(2, 0, " + what + ")", x -> x.cell(2, 0, asked), -1);
            CHECKS.leaves("cell(0, -1, " + what + ")", x -> x.cell(0, -1, asked), -1);
            CHECKS.leaves("cell(0, 2, " + what + ")", x -> x.cell(0, 2, asked), -1);
        }
        CHECKS.leaves("cell(1, 0, 0)", x -> x.cell(1, 0, 0), 3);
        CHECKS.leaves("cell(0, 0, 1)", x -> x.cell(0, 0, 1), 2);
        CHECKS.leaves("cell(0, 1, 1)", x -> x.cell(0, 1, 1), 1);
        CHECKS.leaves("cell(1, 1, 1)", x -> x.cell(1, 1, 1), 0);
        CHECKS.leaves("cell(1, 1, 2)", x -> x.cell(1, 1, 2), 2);
        CHECKS.leaves("cell(1, 1, 3)", x -> x.cell(1, 1, 3), 0);
        AvalancheInn least = CHECKS.inn("lanes 1;rows 1;");
        CHECKS.due("cell(0, 0, 2)", least.cell(0, 0, 2), 3);
        CHECKS.due("cell(1, 0, 2)", least.cell(1, 0, 2), -1);
        CHECKS.due("cell(0, 1, 2)", least.cell(0, 1, 2), -1);
        AvalancheInn most = CHECKS.inn("lanes 6;rows 5;");
        CHECKS.due("cell(5, 4, 2)", most.cell(5, 4, 2), 3);
        CHECKS.due("cell(6, 4, 2)", most.cell(6, 4, 2), -1);
        CHECKS.due("cell(5, 5, 2)", most.cell(5, 5, 2), -1);
    }

    private static void refuseWhats(int lane, int row) {
        for (int what : new int[] {-1, 4, 5, Integer.MIN_VALUE, Integer.MAX_VALUE}) {
            CHECKS.leaves("cell(" + lane + ", " + row + ", " + what + ")", x -> x.cell(lane, row, what), -1);
        }
    }

    private static void roomsAndGuests() {
        CHECKS.sentence("7: NONE if there is none such, or for another what");
        for (int what = 0; what < 4; what++) {
            int asked = what;
            CHECKS.leaves("room(-1, " + what + ")", x -> x.room(-1, asked), -1);
            CHECKS.leaves("room(2, " + what + ")", x -> x.room(2, asked), -1);
        }
        for (int other : FAR_OFF) {
            CHECKS.leaves("room(" + other + ", 0)", x -> x.room(other, 0), -1);
            CHECKS.leaves("room(0, " + other + ")", x -> x.room(0, other), -1);
        }
        CHECKS.leaves("room(1, -1)", x -> x.room(1, -1), -1);
        CHECKS.leaves("room(1, 4)", x -> x.room(1, 4), -1);
        CHECKS.leaves("room(0, 3): GONE", x -> x.room(0, 3), 0);
        CHECKS.leaves("room(1, 3): STANDS", x -> x.room(1, 3), 1);
        CHECKS.leaves("room(1, 0): moved", x -> x.room(1, 0), 0);
        CHECKS.sentence("8: NONE if there is none such, or for another what");
        for (int what = 0; what < 5; what++) {
            int asked = what;
            CHECKS.leaves("guest(-1, " + what + ")", x -> x.guest(-1, asked), -1);
            CHECKS.leaves("guest(2, " + what + ")", x -> x.guest(2, asked), -1);
        }
        for (int other : FAR_OFF) {
            CHECKS.leaves("guest(" + other + ", 0)", x -> x.guest(other, 0), -1);
            CHECKS.leaves("guest(0, " + other + ")", x -> x.guest(0, other), -1);
        }
        CHECKS.leaves("guest(1, -1)", x -> x.guest(1, -1), -1);
        CHECKS.leaves("guest(1, 5)", x -> x.guest(1, 5), -1);
        CHECKS.leaves("guest(0, 4)", x -> x.guest(0, 4), 0);
        CHECKS.leaves("guest(1, 4)", x -> x.guest(1, 4), 1);
    }

    private static void noisesAndHeaps() {
        CHECKS.sentence("9, 40: NONE if there is none such");
        for (int other : new int[] {-1, 2, 3, Integer.MIN_VALUE, Integer.MAX_VALUE}) {
            CHECKS.leaves("noise(" + other + ")", x -> x.noise(other), -1);
            CHECKS.leaves("heap(" + other + ")", x -> x.heap(other), -1);
        }
        CHECKS.leaves("heap(0)", x -> x.heap(0), 0);
        CHECKS.leaves("heap(1)", x -> x.heap(1), 4);
        CHECKS.leaves("noise(0): ann's room is GONE, bob is HUSHED", x -> x.noise(0), 0);
        CHECKS.leaves("noise(1)", x -> x.noise(1), 0);
        AvalancheInn most = CHECKS.inn("lanes 6;rows 5;falls 9;tips 0;");
        for (int i = 0; i < 12; i++) {
            most.hour();
        }
        CHECKS.due("heap(5) of five times 99", most.heap(5), 495);
        CHECKS.due("heap(6)", most.heap(6), -1);
        CHECKS.due("noise(5)", most.noise(5), 0);
        CHECKS.due("noise(6)", most.noise(6), -1);
        StringBuilder choir = new StringBuilder("room a lane 3 bears 0;");
        for (char name = 'a'; name <= 'f'; name++) {
            choir.append("guest ").append(name).append(" room a noise 30 from 0 to 47;");
        }
        CHECKS.due("six of 30", CHECKS.inn(choir.toString()).noise(3), 180);
    }

    private static void snowAtMost() {
        CHECKS.sentence("==== 2: SNOW (99 at most)");
        snowBehind("falls 1;lies 0 0 snow 30;", 68, 98);
        snowBehind("falls 1;lies 0 0 snow 30;", 69, 99);
        snowBehind("falls 1;lies 0 0 snow 30;", 70, 99);
        snowBehind("falls 9;lies 0 0 snow 30;", 7, 93);
        snowBehind("falls 9;lies 0 0 snow 30;", 8, 99);
        snowBehind("falls 9;", 10, 90);
        snowBehind("falls 9;", 11, 99);
        snowBehind("falls 9;", 12, 99);
        CHECKS.sentence("==== 2: the CELL has 3 more: 99 at most");
        snowBehind("falls 0;wind 100;lies 0 0 snow 30;", 22, 96);
        snowBehind("falls 0;wind 100;lies 0 0 snow 30;", 23, 99);
        snowBehind("falls 0;wind 100;lies 0 0 snow 30;", 24, 99);
        snowBehind("falls 0;wind 100;lies 0 0 snow 29;", 23, 98);
        snowBehind("falls 0;wind 100;lies 0 0 snow 29;", 24, 99);
        snowBehind("falls 0;wind 100;lies 0 0 snow 28;", 23, 97);
        snowBehind("falls 0;wind 100;lies 0 0 snow 28;", 24, 99);
        snowBehind("falls 9;wind 100;", 8, 96);
        snowBehind("falls 9;wind 100;", 9, 99);
        CHECKS.sentence("21: SNOW behind n HOURS: 99 at most");
        AvalancheInn inn = CHECKS.inn("lanes 1;rows 1;tips 0;falls 2;lies 0 0 snow 2;");
        CHECKS.due("depth behind 48", inn.depth(0, 0, 48), 98);
        CHECKS.due("depth behind 49", inn.depth(0, 0, 49), 99);
        CHECKS.due("depth behind 60", inn.depth(0, 0, 60), 99);
    }

    private static void snowBehind(String text, int hours, int want) {
        AvalancheInn inn = CHECKS.inn("lanes 1;rows 1;tips 0;" + text);
        for (int i = 0; i < hours; i++) {
            inn.hour();
        }
        CHECKS.due(text + " behind " + hours, inn.cell(0, 0, 0), want);
    }

    private static void loads() {
        CHECKS.sentence("==== 2: each ROOM there that STANDS and bears less is GONE");
        AvalancheInn inn = CHECKS.inn("lanes 2;rows 2;falls 0;lies 0 0 snow 6;lies 0 1 snow 4;tips row = 0;"
                + "room a lane 0 bears 9;room b lane 0 bears 10;room c lane 0 bears 11;room d lane 1 bears 0;"
                + "room e lane 0 bears 0;");
        CHECKS.due("a LOAD of 10", inn.hour(), 17);
        CHECKS.due("GONE", inn.about(4), 17);
        inn.undo();
        CHECKS.due("by a shout", inn.shout(0, 0), 17);
        CHECKS.sentence("==== 2: a LOAD may be above 99");
        String text = "lanes 1;rows 2;falls 0;wind 100;lies 0 0 snow 30;tips row = 0 and snow > 98;"
                + "room a lane 0 bears 99;room b lane 0 bears 98;";
        AvalancheInn borne = CHECKS.inn(text);
        AvalancheInn heavy = CHECKS.inn(text.replace("lies 0 0", "lies 0 1 snow 1;lies 0 0"));
        for (int i = 0; i < 22; i++) {
            borne.hour();
            heavy.hour();
        }
        CHECKS.due("a LOAD of 99", borne.hour(), 2);
        CHECKS.due("a LOAD of 100", heavy.hour(), 3);
        AvalancheInn most = CHECKS.inn("lanes 1;rows 5;falls 9;tips hour > 10 and row = 0;room a lane 0 bears 99;");
        for (int i = 0; i < 11; i++) {
            CHECKS.due("hour " + i, most.hour(), 0);
        }
        CHECKS.due("a TRACK of five times 99", most.track(0, 0, 1), 495);
        CHECKS.due("BRUNT", most.brunt(0, 1), 495);
        CHECKS.due("hour 11", most.hour(), 1);
        CHECKS.due("the SNOW is no more", most.heap(0), 0);
    }

    private static void noiseByHours() {
        CHECKS.sentence("==== 2: from the hour from to the hour to (both count; the hour at hand by its rest by 48)");
        AvalancheInn inn = CHECKS.inn("lanes 1;rows 1;falls 0;room a lane 0 bears 9;guest p room a noise 1 from 0 to 0;"
                + "guest q room a noise 2 from 46 to 47;guest r room a noise 4 from 3 to 5;"
                + "guest s room a noise 8 from 0 to 47;guest t room a noise 16 from 47 to 47;");
        for (int hour = 0; hour <= 100; hour++) {
            int day = hour % 48;
            int want = 8 + (day == 0 ? 1 : 0) + (day >= 46 ? 2 : 0) + (day >= 3 && day <= 5 ? 4 : 0) + (day == 47 ? 16 : 0);
            CHECKS.due("noise(0) at hour " + hour, inn.noise(0), want);
            if (hour < 48) {
                CHECKS.due("awake(" + hour + ")", inn.awake(hour) - 8, want - 8);
            }
            inn.hour();
        }
        CHECKS.sentence("==== 2: not HUSHED, whose ROOM is in it and STANDS");
        AvalancheInn two = CHECKS.inn("lanes 2;rows 1;falls 0;lies 0 0 snow 1;tips noise > 50;room a lane 0 bears 0;"
                + "room b lane 1 bears 0;guest p room a noise 7 from 0 to 47;guest q room b noise 9 from 0 to 47;");
        CHECKS.due("noise(0)", two.noise(0), 7);
        two.hush(0);
        CHECKS.due("p is HUSHED", two.noise(0), 0);
        two.let(0);
        two.move(1, 0);
        CHECKS.due("both", two.noise(0), 16);
        CHECKS.due("none", two.noise(1), 0);
        CHECKS.due("both go", two.shout(0, 35), 3);
        CHECKS.due("GONE", two.noise(0), 0);
        two.build(1);
        CHECKS.due("q again", two.noise(0), 9);
    }

    /** Whether the cell in lane 0, row 0 tips now: 5 of snow, 2 below it, as steep as 4, a noise of 7. */
    private static int tips(String formula) {
        return CHECKS.inn("lanes 2;rows 2;lies 0 0 snow 5;lies 0 1 snow 2;slope 0 steep 4;falls 0;"
                + "room a lane 0 bears 99;guest g room a noise 7 from 0 to 47;tips " + formula + ";").cell(0, 0, 3);
    }

    private static void tipsAboveNothing() {
        CHECKS.sentence("==== 2: a CELL that has SNOW TIPS if what comes of tips is above 0");
        CHECKS.due("snow - 6", tips("snow - 6"), 0);
        CHECKS.due("snow - 5", tips("snow - 5"), 0);
        CHECKS.due("snow - 4", tips("snow - 4"), 1);
        CHECKS.due("no SNOW", CHECKS.inn("tips 1;").cell(0, 0, 3), 0);
        CHECKS.due("SNOW of 0 told", CHECKS.inn("lies 0 0 snow 0;tips 1;").cell(0, 0, 3), 0);
        CHECKS.due("SNOW of 1", CHECKS.inn("lies 0 0 snow 1;tips 1;").cell(0, 0, 3), 1);
        CHECKS.sentence("==== 2: snow * steep + noise - 40, if it is not told");
        String usual = "lanes 1;rows 1;lies 0 0 snow %d;room a lane 0 bears 99;guest g room a noise %d from 0 to 47;";
        CHECKS.due("13 * 3 + 0", CHECKS.inn(usual.formatted(13, 0)).cell(0, 0, 3), 0);
        CHECKS.due("13 * 3 + 1", CHECKS.inn(usual.formatted(13, 1)).cell(0, 0, 3), 0);
        CHECKS.due("13 * 3 + 2", CHECKS.inn(usual.formatted(13, 2)).cell(0, 0, 3), 1);
        CHECKS.due("14 * 3 + 0", CHECKS.inn(usual.formatted(14, 0)).cell(0, 0, 3), 1);
        CHECKS.due("no SNOW, a shout", CHECKS.inn(usual.formatted(0, 30)).least(0), -1);
        CHECKS.due("told, it is another", CHECKS.inn(usual.formatted(14, 0) + "tips snow * steep + noise - 42;")
                .cell(0, 0, 3), 0);
        CHECKS.sentence("==== 2: below (SNOW of the CELL below it; 0 in the last row)");
        AvalancheInn inn = CHECKS.inn("lanes 2;rows 3;lies 0 0 snow 1;lies 0 1 snow 2;lies 0 2 snow 3;lies 1 0 snow 4;"
                + "tips below = 0;");
        CHECKS.due("row 0", inn.cell(0, 0, 3), 0);
        CHECKS.due("row 1", inn.cell(0, 1, 3), 0);
        CHECKS.due("row 2", inn.cell(0, 2, 3), 1);
        CHECKS.due("nothing below", inn.cell(1, 0, 3), 1);
        AvalancheInn whole = CHECKS.inn("lanes 2;rows 5;lies 0 4 snow 1;lies 0 3 snow 1;lies 1 0 snow 9;tips below = 0;");
        CHECKS.due("the last of five rows, snow at the top of the next lane", whole.cell(0, 4, 3), 1);
        CHECKS.due("the last but one", whole.cell(0, 3, 3), 0);
        AvalancheInn rows = CHECKS.inn("lanes 1;rows 3;lies 0 0 snow 1;lies 0 1 snow 1;lies 0 2 snow 1;tips row = 2;");
        CHECKS.due("row: its number", rows.cell(0, 0, 3) + rows.cell(0, 1, 3) * 2 + rows.cell(0, 2, 3) * 4, 4);
        CHECKS.sentence("==== 2: hour (at hand)");
        AvalancheInn late = CHECKS.inn("lanes 1;rows 1;falls 0;lies 0 0 snow 1;tips hour = 48;");
        for (int hour = 0; hour <= 48; hour++) {
            CHECKS.due("at hour " + hour, late.cell(0, 0, 3), hour == 48 ? 1 : 0);
            late.hour();
        }
        CHECKS.due("it went", late.heap(0), 0);
    }

    private static void formulaEdges() {
        CHECKS.sentence("==== 2: ints, wrapping");
        String least = "(4096 * 4096 * 128)";
        CHECKS.due("the least int", tips(least + " < 0"), 1);
        CHECKS.due("less 1, the greatest", tips(least + " - 1 > 0"), 1);
        CHECKS.due("the greatest and 1 more", tips(least + " - 1 + 1 < 0"), 1);
        CHECKS.due("by -1: itself", tips(least + " / (0 - 1) = " + least), 1);
        CHECKS.due("its rest by -1", tips(least + " % (0 - 1) = 0"), 1);
        CHECKS.due("its 2-fold", tips(least + " * 2 = 0"), 1);
        CHECKS.due("the least int is not above 0", tips(least), 0);
        CHECKS.due("the greatest is", tips(least + " - 1"), 1);
        CHECKS.due("9999 * 9999 is none that wraps", tips("9999 * 9999 = 9998 * 9999 + 9999"), 1);
        CHECKS.sentence("==== 2: / cut, % its rest, both by 0: 0");
        String[] so = {"7 / 2 = 3", "(0 - 7) / 2 = 0 - 3", "7 / (0 - 2) = 0 - 3", "(0 - 7) / (0 - 2) = 3", "1 / 2 = 0",
            "(0 - 1) / 2 = 0", "7 % 2 = 1", "(0 - 7) % 2 = 0 - 1", "7 % (0 - 2) = 1", "(0 - 7) % (0 - 2) = 0 - 1",
            "6 % 2 = 0", "7 / 0 = 0", "7 % 0 = 0", "0 / 0 = 0", "0 % 0 = 0", "(0 - 7) / 0 = 0", "(0 - 7) % 0 = 0",
            "7 / 1 = 7", "7 % 1 = 0", "7 / (snow - 5) = 0", "7 % (snow - 5) = 0", "7 / (snow - 4) = 7"};
        dueAll(so, 1);
        CHECKS.sentence("==== 2: relations, and, or, not are 1 or 0, of what is not 0");
        String[] truths = {"4 < 5", "not 5 < 5", "not 6 < 5", "6 > 5", "not 5 > 5", "not 4 > 5", "5 = 5", "not 4 = 5",
            "not 6 = 5", "(0 - 1) < 0", "0 > (0 - 1)", "(4 < 5) = 1", "(5 < 5) = 0", "(5 = 5) = 1", "(5 > 4) * 9 = 9",
            "(7 and 9) = 1", "(7 and 0) = 0", "(0 and 7) = 0", "(0 and 0) = 0", "(7 or 0) = 1", "(0 or 7) = 1",
            "(7 or 9) = 1", "(0 or 0) = 0", "((0 - 1) and (0 - 2)) = 1", "((0 - 1) or 0) = 1", "(not 0) = 1",
            "(not 7) = 0", "(not (0 - 1)) = 0", "(not not 7) = 1", "not 1 = 2", "1 or 0 and 0", "not (0 and 0 or 0)",
            "1 = 1 and 2 > 1 or 0", "2 + 3 * 4 = 14", "20 - 5 - 4 = 11", "100 / 5 / 2 = 10", "100 / 5 * 2 = 40",
            "17 % 10 % 4 = 3", "2 * 3 % 4 = 2", "10 - 2 * 3 = 4", "2 < 1 + 2"};
        dueAll(truths, 1);
        String[] nots = {"5 < 5", "5 > 5", "4 = 5", "7 and 0", "0 or 0", "not 7", "not not 0", "0 - 1", "0", "1 - 1",
            "(0 or 1) and 0", "not 1 = 1", "not 0 and 0"};
        dueAll(nots, 0);
        CHECKS.sentence("==== 2: by snow, steep, noise, below, hour, row");
        dueAll(new String[] {"snow = 5", "steep = 4", "noise = 7", "below = 2", "hour = 0", "row = 0"}, 1);
    }

    private static void dueAll(String[] formulas, int want) {
        for (String formula : formulas) {
            CHECKS.due("tips " + formula, tips(formula), want);
        }
    }

    private static void wallsAside() {
        CHECKS.sentence("==== 2: turned to the left (beyond the first one: aside), to the right (beyond the last one)");
        for (int lanes = 1; lanes <= 6; lanes++) {
            for (int lane = 0; lane < lanes; lane++) {
                String text = "lanes " + lanes + ";rows 2;lies " + lane + " 0 snow 5;wall " + lane + " 1 ";
                AvalancheInn left = CHECKS.inn(text + "left;");
                CHECKS.due("left of " + lane, left.track(lane, 0, 0), lane - 1);
                CHECKS.due("left of " + lane + " brings", left.track(lane, 0, 1), lane == 0 ? 0 : 5);
                AvalancheInn right = CHECKS.inn(text + "right;");
                CHECKS.due("right of " + lane + " of " + lanes, right.track(lane, 0, 0), lane == lanes - 1 ? -1 : lane + 1);
                CHECKS.due("right of " + lane + " brings", right.track(lane, 0, 1), lane == lanes - 1 ? 0 : 5);
            }
        }
        CHECKS.sentence("==== 2: it goes aside, nothing comes of it");
        AvalancheInn aside = CHECKS.inn("lanes 2;rows 3;falls 0;lies 0 0 snow 4;lies 0 1 snow 4;lies 0 2 snow 7;"
                + "wall 0 2 left;room a lane 0 bears 0;room b lane 1 bears 0;tips row = 0;");
        CHECKS.due("hour()", aside.hour(), 0);
        CHECKS.due("what it took along is no more", aside.cell(0, 0, 0) + aside.cell(0, 1, 0), 0);
        CHECKS.due("behind the wall it lies on", aside.cell(0, 2, 0), 7);
        CHECKS.sentence("==== 2: there it takes all SNOW along (no other WALL turns it in that row)");
        AvalancheInn turned = CHECKS.inn("lanes 3;rows 3;falls 0;lies 1 0 snow 1;lies 1 1 snow 2;lies 0 1 snow 3;"
                + "lies 0 2 snow 4;lies 1 2 snow 5;wall 1 1 left;wall 0 1 left;wall 0 2 right;wall 1 2 right;"
                + "tips row = 0;room a lane 1 bears 8;");
        CHECKS.due("once to the left, then once to the right", turned.track(1, 0, 0), 1);
        CHECKS.due("with", turned.track(1, 0, 1), 9);
        CHECKS.due("hour()", turned.hour(), 1);
        CHECKS.due("lane 0: row 2 lies on", turned.heap(0), 4);
        CHECKS.due("lane 1: row 1 lies on", turned.heap(1), 2);
        CHECKS.sentence("==== 2: if the CELL below has a WALL: its own turns nothing");
        AvalancheInn own = CHECKS.inn("lanes 2;rows 2;lies 0 0 snow 4;lies 0 1 snow 3;wall 0 0 right;");
        CHECKS.due("from the first row", own.track(0, 0, 0), 0);
        CHECKS.due("with", own.track(0, 0, 1), 7);
        own.wall(0, 1, 2);
        CHECKS.due("from the last row", own.track(0, 1, 0), 0);
        CHECKS.due("with", own.track(0, 1, 1), 3);
    }

    private static void orderOfAnHour() {
        CHECKS.sentence("==== 2: row by row from the top, lane by lane, each CELL, as it is then");
        // in lane 0 the upper one takes the lower one along; of two rows, (1, 0) is ahead of (0, 1)
        AvalancheInn rows = CHECKS.inn("lanes 2;rows 2;falls 0;lies 0 1 snow 2;lies 1 0 snow 3;wall 1 1 left;"
                + "room a lane 0 bears 4;room b lane 0 bears 5;tips 1;");
        CHECKS.due("together", rows.hour(), 1);
        // (0, 0) goes first, takes (1, 1) away from (1, 0), which then has nothing below it
        AvalancheInn lanes = CHECKS.inn("lanes 2;rows 2;falls 0;lies 0 0 snow 3;lies 1 0 snow 3;lies 1 1 snow 3;"
                + "wall 0 1 right;room a lane 1 bears 5;tips row = 0 and (below > 0 or snow = 3 and noise = 0);");
        CHECKS.due("6, then 3", lanes.hour(), 1);
        AvalancheInn later = CHECKS.inn("lanes 2;rows 2;falls 0;lies 0 0 snow 3;lies 1 0 snow 3;lies 1 1 snow 3;"
                + "wall 0 1 right;tips row = 0 and below > 0;lies 0 1 snow 1;");
        later.hour();
        CHECKS.due("(1, 0) has nothing below it then", later.cell(1, 0, 0), 3);
        CHECKS.due("(0, 0) went", later.cell(0, 0, 0), 0);
        CHECKS.sentence("==== 2: each CELL has as much more SNOW as falls tells, ahead of all that TIPS");
        AvalancheInn falls = CHECKS.inn("lanes 1;rows 2;falls 2;tips snow > 1;room a lane 0 bears 3;");
        CHECKS.due("2 and 2", falls.hour(), 1);
        CHECKS.due("nothing lies there", falls.heap(0), 0);
        CHECKS.sentence("==== 2: the PURSE has as much more as the rates of all ROOMS that STAND");
        AvalancheInn purse = CHECKS.inn("lanes 2;rows 1;falls 0;lies 0 0 snow 1;tips hour = 1;"
                + "room a lane 0 bears 0 rate 7;room b lane 1 bears 0 rate 20;room c lane 0 bears 1;"
                + "room d lane 1 bears 0 rate 0;");
        int[] want = {28, 49, 70};
        for (int i = 0; i < want.length; i++) {
            CHECKS.due("gone", purse.hour(), i == 1 ? 1 : 0);
            CHECKS.due("purse behind " + (i + 1), purse.about(6), want[i]);
        }
    }

    private static void seedAndWind() {
        CHECKS.sentence("==== 2: the SEED becomes its 137-fold and 71 more, modulo 1,000");
        int[] seeds = {0, 1, 6, 7, 8, 500, 998, 999};
        int[] next = {71, 208, 893, 30, 167, 571, 797, 934};
        for (int i = 0; i < seeds.length; i++) {
            AvalancheInn inn = CHECKS.inn("draw " + seeds[i] + ";");
            CHECKS.due("seed", inn.about(8), seeds[i]);
            inn.hour();
            CHECKS.due("behind " + seeds[i], inn.about(8), next[i]);
        }
        CHECKS.sentence("==== 2: if its rest by 100 is less than wind tells");
        // 7 becomes 30, 0 becomes 71, 500 becomes 571
        driftDue("draw 7;wind 29;", 4, -1);
        driftDue("draw 7;wind 30;", 4, -1);
        driftDue("draw 7;wind 31;", 4, 2);
        driftDue("wind 71;", 4, -1);
        driftDue("wind 72;", 4, 3);
        driftDue("draw 500;wind 71;", 4, -1);
        driftDue("draw 500;wind 72;", 4, 3);
        driftDue("wind 0;", 4, -1);
        driftDue("wind 100;", 4, 3);
        // 217 becomes 800: its rest is 0
        driftDue("draw 217;wind 0;", 4, -1);
        driftDue("draw 217;wind 1;", 4, 0);
        // 844 becomes 699: its rest is 99
        driftDue("draw 844;wind 99;", 4, -1);
        driftDue("draw 844;wind 100;", 4, 3);
        CHECKS.sentence("==== 2: the lane whose number is the SEED modulo how many lanes there are, first row");
        int[] lanes = {0, 1, 2, 3, 1, 5};
        for (int count = 1; count <= 6; count++) {
            driftDue("lanes " + count + ";wind 100;", count, lanes[count - 1]);
        }
    }

    /** One hour of wind: 3 more in the first row of the lane, NONE for no lane; 2 fall everywhere. */
    private static void driftDue(String text, int lanes, int lane) {
        AvalancheInn inn = CHECKS.inn(text + "falls 2;");
        inn.hour();
        for (int i = 0; i < lanes; i++) {
            CHECKS.due(text + " top of lane " + i, inn.cell(i, 0, 0), i == lane ? 5 : 2);
            CHECKS.due(text + " second of lane " + i, inn.cell(i, 1, 0), 2);
        }
    }

    private static void hourActs() {
        CHECKS.sentence("10: NONE, doing nothing, behind 999 of them");
        for (int hours = 997; hours <= 999; hours++) {
            AvalancheInn inn = aged(hours);
            CHECKS.due("about(7)", inn.about(7), hours);
            CHECKS.due("hour() behind " + hours, inn.hour(), hours < 999 ? 0 : -1);
            CHECKS.due("about(7) then", inn.about(7), Math.min(hours + 1, 999));
        }
        CHECKS.leaves("hour() behind 999", () -> aged(999), AvalancheInn::hour, -1);
        AvalancheInn back = aged(999);
        back.undo();
        CHECKS.due("undone, one more can be", back.hour(), 0);
        CHECKS.due("but no other", back.hour(), -1);
        CHECKS.due("foreseen all the same", back.purse(60), 1059);
        CHECKS.sentence("10: ROOMS that are GONE by it, as bits");
        AvalancheInn inn = CHECKS.inn("lanes 2;rows 1;falls 0;lies 0 0 snow 9;lies 1 0 snow 9;"
                + "tips hour = 0 and noise = 3 or hour = 1;room a lane 0 bears 1;room b lane 1 bears 1;"
                + "room c lane 0 bears 8;guest g room b noise 3 from 0 to 0;room d lane 0 bears 9;room e lane 0 bears 0;");
        CHECKS.due("the first", inn.hour(), 2);
        CHECKS.due("the second: not those GONE already", inn.hour(), 21);
        CHECKS.due("all", inn.about(4), 23);
        CHECKS.due("the third", inn.hour(), 0);
    }

    private static AvalancheInn aged(int hours) {
        AvalancheInn inn = new AvalancheInn();
        Texts.tell(inn, "lanes 1;rows 1;falls 0;room a lane 0 bears 0;");
        for (int i = 0; i < hours; i++) {
            inn.hour();
        }
        return inn;
    }

    private static void shouts() {
        CHECKS.sentence("11: NONE, doing nothing, if one can't be");
        for (int loud : new int[] {-1, 100, 101, Integer.MIN_VALUE, Integer.MAX_VALUE}) {
            CHECKS.leaves("shout(0, " + loud + ")", x -> x.shout(0, loud), -1);
        }
        for (int lane : new int[] {-1, 2, 3, Integer.MIN_VALUE, Integer.MAX_VALUE}) {
            CHECKS.leaves("shout(" + lane + ", 5)", x -> x.shout(lane, 5), -1);
        }
        CHECKS.leaves("shout(2, 100)", x -> x.shout(2, 100), -1);
        CHECKS.sentence("11: a SHOUT (0 .. 99), an ACT");
        String text = "lanes 2;rows 1;falls 0;lies 0 0 snow 9;lies 1 0 snow 9;room a lane 0 bears 1;room b lane 1 bears 1;";
        for (int loud : new int[] {0, 1, 98, 99}) {
            AvalancheInn inn = CHECKS.inn(text + "tips noise > " + loud + ";");
            CHECKS.due("shout(1, " + loud + ")", inn.shout(1, loud), 0);
            CHECKS.due("an ACT", inn.about(9), 1);
            CHECKS.due("nothing went", inn.heap(1), 9);
            if (loud < 99) {
                CHECKS.due("one more", inn.shout(1, loud + 1), 2);
                CHECKS.due("it went", inn.heap(1), 0);
            }
            CHECKS.due("the other lane", inn.heap(0), 9);
            CHECKS.due("no hour", inn.about(7), 0);
            CHECKS.due("the SEED", inn.about(8), 0);
            CHECKS.due("the PURSE", inn.about(6), 0);
        }
        CHECKS.due("0 is enough", CHECKS.inn(text + "tips noise = 0;").shout(0, 0), 1);
        CHECKS.due("99 is", CHECKS.inn(text + "tips noise = 99;").shout(0, 99), 1);
        AvalancheInn high = CHECKS.inn("lanes 6;rows 5;falls 0;tips 1;lies 0 4 snow 3;lies 1 0 snow 4;lies 5 4 snow 5;"
                + "room a lane 0 bears 2;room b lane 1 bears 3;room c lane 5 bears 4;");
        CHECKS.due("lane 0 alone, to its last row", high.shout(0, 0), 1);
        CHECKS.due("the last lane", high.shout(5, 0), 4);
        CHECKS.due("lane 1 stays", high.heap(1), 4);
        CHECKS.sentence("==== 2: a SHOUT: its CELLS, from the top, TIP or not, with so much more NOISE");
        AvalancheInn down = CHECKS.inn("lanes 1;rows 3;falls 0;lies 0 0 snow 1;lies 0 1 snow 2;lies 0 2 snow 4;"
                + "tips noise = 5 and row > 0;room a lane 0 bears 5;room b lane 0 bears 6;");
        CHECKS.due("shout(0, 5)", down.shout(0, 5), 1);
        CHECKS.due("what is above stays", down.heap(0), 1);
        // round by lane 1 the first slide comes on lane 0: the room that goes by it sings no more at the second
        AvalancheInn sung = CHECKS.inn("lanes 2;rows 3;falls 0;lies 0 0 snow 3;lies 0 1 snow 3;wall 0 1 right;"
                + "wall 1 2 left;tips noise > 11;room a lane 0 bears 0;guest g room a noise 7 from 0 to 47;");
        CHECKS.due("shout(0, 4): 11", sung.shout(0, 4), 0);
        CHECKS.due("nothing went", sung.heap(0), 6);
        CHECKS.due("shout(0, 5): 12, then 5", sung.shout(0, 5), 1);
        CHECKS.due("the second lies on", sung.heap(0), 3);
        sung.undo();
        CHECKS.due("shout(0, 12): 19, then 12", sung.shout(0, 12), 1);
        CHECKS.due("the second went, too", sung.heap(0), 0);
    }

    private static void moves() {
        CHECKS.sentence("12: NONE, doing nothing, if it is there, is GONE, or one can't be");
        CHECKS.leaves("move(1, 0): it is there", x -> x.move(1, 0), -1);
        CHECKS.leaves("move(0, 1): it is GONE", x -> x.move(0, 1), -1);
        CHECKS.leaves("move(0, 0): both", x -> x.move(0, 0), -1);
        for (int other : new int[] {-1, 2, 3, Integer.MIN_VALUE, Integer.MAX_VALUE}) {
            CHECKS.leaves("move(1, " + other + ")", x -> x.move(1, other), -1);
            CHECKS.leaves("move(" + other + ", 1)", x -> x.move(other, 1), -1);
        }
        AvalancheInn inn = CHECKS.inn("lanes 6;room a lane 2 bears 9;room b lane 2 bears 9;");
        CHECKS.due("move(0, 5)", inn.move(0, 5), 2);
        CHECKS.due("move(0, 6)", inn.move(0, 6), -1);
        CHECKS.due("move(0, 0)", inn.move(0, 0), 5);
        CHECKS.due("move(0, -1)", inn.move(0, -1), -1);
        CHECKS.due("where it is", inn.room(0, 0), 0);
        CHECKS.due("the other one", inn.room(1, 0), 2);
        CHECKS.due("ACTS", inn.about(9), 2);
    }

    private static void builds() {
        CHECKS.sentence("13: NONE, doing nothing, if it STANDS, or there is none such");
        for (int other : new int[] {1, -1, 2, Integer.MIN_VALUE, Integer.MAX_VALUE, 32, 33}) {
            CHECKS.leaves("build(" + other + ")", x -> x.build(other), -1);
        }
        CHECKS.sentence("13: how many STAND then");
        AvalancheInn inn = CHECKS.inn("lanes 1;rows 1;falls 0;lies 0 0 snow 9;tips 1;room a lane 0 bears 1;"
                + "room b lane 0 bears 1;room c lane 0 bears 1;room d lane 0 bears 1;room e lane 0 bears 1;");
        CHECKS.due("all go", inn.hour(), 31);
        CHECKS.due("build(5)", inn.build(5), -1);
        int[] order = {4, 0, 2, 1, 3};
        for (int i = 0; i < 5; i++) {
            CHECKS.due("build(" + order[i] + ")", inn.build(order[i]), i + 1);
            CHECKS.due("again", inn.build(order[i]), -1);
        }
        CHECKS.due("none is GONE", inn.about(4), 0);
        CHECKS.due("ACTS", inn.about(9), 6);
    }

    private static void hushes() {
        CHECKS.sentence("14: NONE, doing nothing, if it is, or there is none such");
        for (int other : new int[] {1, -1, 2, 3, Integer.MIN_VALUE, Integer.MAX_VALUE, 32, 33}) {
            CHECKS.leaves("hush(" + other + ")", x -> x.hush(other), -1);
        }
        CHECKS.sentence("15: NONE, doing nothing, if it is not HUSHED, or there is none such");
        for (int other : new int[] {0, -1, 2, 3, Integer.MIN_VALUE, Integer.MAX_VALUE, 32, 33}) {
            CHECKS.leaves("let(" + other + ")", x -> x.let(other), -1);
        }
        CHECKS.sentence("14, 15: all that are, as bits");
        StringBuilder text = new StringBuilder("room a lane 0 bears 1;");
        for (char name = 'a'; name <= 'f'; name++) {
            text.append("guest ").append(name).append(" room a noise 3 from 0 to 47;");
        }
        AvalancheInn inn = CHECKS.inn(text.toString());
        int all = 0;
        for (int guest : new int[] {5, 0, 3, 1, 4, 2}) {
            all |= 1 << guest;
            CHECKS.due("hush(" + guest + ")", inn.hush(guest), all);
            CHECKS.due("again", inn.hush(guest), -1);
        }
        CHECKS.due("hush(6)", inn.hush(6), -1);
        CHECKS.due("noise", inn.noise(0), 0);
        for (int guest : new int[] {5, 2, 0, 1, 4, 3}) {
            all &= ~(1 << guest);
            CHECKS.due("let(" + guest + ")", inn.let(guest), all);
            CHECKS.due("again", inn.let(guest), -1);
        }
        CHECKS.due("let(6)", inn.let(6), -1);
        CHECKS.due("noise", inn.noise(0), 18);
        CHECKS.due("ACTS", inn.about(9), 12);
        CHECKS.sentence("14: a GUEST whose ROOM is GONE may be HUSHED and let");
        AvalancheInn gone = Checks.lived();
        CHECKS.due("hush(0)", gone.hush(0), 3);
        CHECKS.due("let(0)", gone.let(0), 2);
    }

    private static void wallActs() {
        CHECKS.sentence("16: NONE, doing nothing, if it has that, or one can't be");
        CHECKS.leaves("wall(0, 0, 2)", x -> x.wall(0, 0, 2), -1);
        CHECKS.leaves("wall(0, 1, 1)", x -> x.wall(0, 1, 1), -1);
        CHECKS.leaves("wall(1, 1, 0)", x -> x.wall(1, 1, 0), -1);
        for (int other : new int[] {-1, 3, 4, Integer.MIN_VALUE, Integer.MAX_VALUE}) {
            CHECKS.leaves("wall(1, 1, " + other + ")", x -> x.wall(1, 1, other), -1);
        }
        for (int other : new int[] {-1, 2, 6, Integer.MIN_VALUE, Integer.MAX_VALUE}) {
            CHECKS.leaves("wall(" + other + ", 1, 1)", x -> x.wall(other, 1, 1), -1);
            CHECKS.leaves("wall(1, " + other + ", 1)", x -> x.wall(1, other, 1), -1);
        }
        CHECKS.sentence("16: another WALL (0: none, 1: left, 2: right): which it had");
        AvalancheInn inn = CHECKS.inn("lanes 6;rows 5;");
        int had = 0;
        for (int side : new int[] {1, 2, 0, 2, 1, 0}) {
            CHECKS.due("wall(5, 4, " + side + ")", inn.wall(5, 4, side), had);
            CHECKS.due("again", inn.wall(5, 4, side), -1);
            CHECKS.due("it has that", inn.cell(5, 4, 1), side);
            had = side;
        }
        CHECKS.due("wall(6, 4, 1)", inn.wall(6, 4, 1), -1);
        CHECKS.due("wall(5, 5, 1)", inn.wall(5, 5, 1), -1);
        CHECKS.due("wall(0, 0, 1)", inn.wall(0, 0, 1), 0);
        CHECKS.due("ACTS", inn.about(9), 7);
    }

    private static void shovels() {
        CHECKS.sentence("17: NONE, doing nothing, if there is none, or no such CELL");
        CHECKS.leaves("shovel(0, 0): no SNOW", x -> x.shovel(0, 0), -1);
        for (int other : new int[] {-1, 2, 6, Integer.MIN_VALUE, Integer.MAX_VALUE}) {
            CHECKS.leaves("shovel(" + other + ", 0)", x -> x.shovel(other, 0), -1);
            CHECKS.leaves("shovel(1, " + other + ")", x -> x.shovel(1, other), -1);
        }
        CHECKS.sentence("17: how much SNOW is gone");
        AvalancheInn inn = CHECKS.inn("lanes 6;rows 5;falls 9;tips 0;lies 5 4 snow 1;");
        CHECKS.due("shovel(5, 4)", inn.shovel(5, 4), 1);
        CHECKS.due("again", inn.shovel(5, 4), -1);
        CHECKS.due("shovel(5, 5)", inn.shovel(5, 5), -1);
        CHECKS.due("shovel(6, 4)", inn.shovel(6, 4), -1);
        CHECKS.due("ACTS", inn.about(9), 1);
        for (int i = 0; i < 12; i++) {
            inn.hour();
        }
        CHECKS.due("shovel(0, 0)", inn.shovel(0, 0), 99);
        CHECKS.due("what is beside it stays", inn.heap(0) + inn.cell(1, 0, 0), 396 + 99);
    }

    private static void keptActs() {
        CHECKS.sentence("==== 2: 40 at most are kept, the oldest go");
        for (int acts = 38; acts <= 43; acts++) {
            AvalancheInn inn = aged(acts);
            int kept = Math.min(40, acts);
            CHECKS.due("can be undone of " + acts, inn.about(9), kept);
            CHECKS.due("can be redone", inn.about(10), 0);
            for (int i = 1; i <= kept; i++) {
                CHECKS.due("undo " + i, inn.undo(), true);
                CHECKS.due("hour", inn.about(7), acts - i);
                CHECKS.due("can be redone", inn.about(10), i);
                CHECKS.due("can be undone", inn.about(9), kept - i);
            }
            CHECKS.due("no more", inn.undo(), false);
            CHECKS.due("hour", inn.about(7), acts - kept);
            for (int i = 1; i <= kept; i++) {
                CHECKS.due("redo " + i, inn.redo(), true);
                CHECKS.due("hour", inn.about(7), acts - kept + i);
            }
            CHECKS.due("no more", inn.redo(), false);
            CHECKS.due("can be undone", inn.about(9), kept);
        }
        CHECKS.sentence("18: false if there is none; 19: false if there is none");
        CHECKS.leaves("undo() of none", AvalancheInn::new, x -> x.undo() ? 1 : 0, 0);
        CHECKS.leaves("redo() of none", AvalancheInn::new, x -> x.redo() ? 1 : 0, 0);
        CHECKS.leaves("redo() behind the last", SlopeBoundsTest::redone, x -> x.redo() ? 1 : 0, 0);
        CHECKS.leaves("undo() behind the first", SlopeBoundsTest::undone, x -> x.undo() ? 1 : 0, 0);
        CHECKS.leaves("undo(), redo()", x -> x.undo() && x.redo() ? 1 : 0, 1);
        CHECKS.leaves("redo(), undo()", x -> x.redo() && x.undo() ? 1 : 0, 1);
        CHECKS.sentence("==== 2: till another ACT");
        AvalancheInn inn = aged(40);
        for (int i = 0; i < 5; i++) {
            inn.undo();
        }
        inn.shout(0, 1);
        CHECKS.due("can be redone", inn.about(10), 0);
        CHECKS.due("can be undone", inn.about(9), 36);
        CHECKS.due("redo()", inn.redo(), false);
        for (int i = 0; i < 4; i++) {
            inn.hour();
        }
        CHECKS.due("40 again", inn.about(9), 40);
        inn.hour();
        CHECKS.due("still 40", inn.about(9), 40);
        for (int i = 0; i < 40; i++) {
            inn.undo();
        }
        CHECKS.due("the oldest went", inn.about(7), 1);
        CHECKS.due("no more", inn.undo(), false);
    }

    private static AvalancheInn redone() {
        AvalancheInn inn = Checks.lived();
        for (int i = 0; i < 2; i++) {
            inn.redo();
        }
        return inn;
    }

    private static AvalancheInn undone() {
        AvalancheInn inn = Checks.lived();
        for (int i = 0; i < 5; i++) {
            inn.undo();
        }
        return inn;
    }

    private static void everyActUndone() {
        CHECKS.sentence("18, 19: each ACT is undone and redone, and ends what could be redone");
        String[] names = {"hour", "shout", "shout of nothing", "move", "build", "hush", "let", "wall", "shovel"};
        for (int i = 0; i < names.length; i++) {
            ToIntFunction<AvalancheInn> act = act(i);
            AvalancheInn inn = Checks.lived();
            String before = View.brief(inn);
            CHECKS.due(names[i] + " can be", act.applyAsInt(inn) >= 0, true);
            CHECKS.due(names[i] + ": can be undone", inn.about(9), 6);
            CHECKS.due(names[i] + ": can be redone", inn.about(10), 0);
            String after = View.brief(inn);
            CHECKS.due(names[i] + ": redo()", inn.redo(), false);
            CHECKS.due(names[i] + ": undo()", inn.undo(), true);
            CHECKS.same(names[i] + " undone", View.brief(inn), before);
            CHECKS.due(names[i] + ": can be redone", inn.about(10), 1);
            CHECKS.due(names[i] + ": redo()", inn.redo(), true);
            CHECKS.same(names[i] + " redone", View.brief(inn), after);
            CHECKS.due(names[i] + " does something", before.equals(after), i == 2);
        }
    }

    private static ToIntFunction<AvalancheInn> act(int i) {
        return switch (i) {
            case 0 -> AvalancheInn::hour;
            case 1 -> x -> x.shout(1, 99);
            case 2 -> x -> x.shout(0, 0);
            case 3 -> x -> x.move(1, 1);
            case 4 -> x -> x.build(0);
            case 5 -> x -> x.hush(0);
            case 6 -> x -> x.let(1);
            case 7 -> x -> x.wall(1, 1, 2);
            default -> x -> x.shovel(1, 1);
        };
    }

    private static void whatIsNoAct() {
        CHECKS.sentence("==== 2: what is no ACT can't be undone, and ends nothing that can be redone");
        AvalancheInn inn = Checks.lived();
        inn.image(1);
        inn.later(7);
        inn.seen(0, 0, true);
        inn.untell(0);
        inn.feed(1, 2, 3, 4, 5);
        inn.end(3);
        inn.pass();
        inn.places(2);
        inn.duel(0, 1);
        inn.quiet(2, 0);
        inn.dam(2, 0);
        inn.dig(2, 0);
        inn.will(60, 1);
        CHECKS.due("can be undone", inn.about(9), 5);
        CHECKS.due("can be redone", inn.about(10), 2);
        CHECKS.sentence("51, 4: no ACTS are kept then");
        CHECKS.due("back(0)", inn.back(0), 0);
        CHECKS.due("can be undone", inn.about(9), 0);
        CHECKS.due("can be redone", inn.about(10), 0);
        CHECKS.due("undo()", inn.undo(), false);
        CHECKS.due("redo()", inn.redo(), false);
        AvalancheInn told = Checks.lived();
        told.pass();
        CHECKS.due("undo()", told.undo(), false);
        CHECKS.due("redo()", told.redo(), false);
    }

    private static void boxes() {
        CHECKS.sentence("50: NONE if there is none such");
        for (int box : new int[] {-1, 3, 4, 32, Integer.MIN_VALUE, Integer.MAX_VALUE}) {
            CHECKS.leaves("image(" + box + ")", x -> x.image(box), -1);
        }
        CHECKS.sentence("51: NONE, doing nothing, if nothing was");
        for (int box : new int[] {-1, 1, 3, 4, 32, 34, Integer.MIN_VALUE, Integer.MAX_VALUE}) {
            CHECKS.leaves("back(" + box + ")", x -> x.back(box), -1);
        }
        CHECKS.sentence("50: are kept in a BOX 0 .. 2: the hour");
        AvalancheInn inn = Checks.lived();
        String kept = View.brief(inn);
        for (int box = 0; box < 3; box++) {
            CHECKS.due("image(" + box + ")", inn.image(box), 1);
        }
        CHECKS.due("no ACT", inn.about(9), 5);
        inn.hour();
        inn.let(1);
        inn.build(0);
        inn.move(0, 1);
        inn.wall(1, 0, 1);
        inn.hour();
        CHECKS.due("image(1)", inn.image(1), 3);
        String other = View.brief(inn);
        for (int box = 0; box < 3; box++) {
            CHECKS.due("back(" + box + ")", inn.back(box), box == 1 ? 3 : 1);
            CHECKS.same("back(" + box + ")", View.brief(inn), box == 1 ? other : kept);
            CHECKS.due("no ACTS", inn.about(9) + inn.about(10), 0);
            inn.hour();
        }
        CHECKS.due("what was kept stays kept", inn.back(2), 1);
        CHECKS.same("back(2)", View.brief(inn), kept);
        CHECKS.sentence("51: all is as it was kept: and what is not kept stays as it is");
        AvalancheInn more = Checks.lived();
        more.later(10);
        more.seen(3, 1, true);
        more.places(1);
        CHECKS.due("back(2)", more.back(2), 1);
        CHECKS.due("SEEN", more.about(11), 3);
        CHECKS.due("TIME", more.about(12), 15);
        CHECKS.due("TAPE", more.about(13), 34);
        CHECKS.due("lies there", more.about(15), 2);
    }

    private static void abouts() {
        CHECKS.sentence("52: NONE for another what");
        for (int what : new int[] {-1, 18, 19, Integer.MIN_VALUE, Integer.MAX_VALUE}) {
            CHECKS.leaves("about(" + what + ")", x -> x.about(what), -1);
        }
        int[] want = {2, 2, 2, 2, 1, 2, 5, 1, 30, 5, 2, 2, 5, 34, 4, 2, 1, 30};
        for (int what = 0; what < want.length; what++) {
            int asked = what;
            CHECKS.leaves("about(" + what + ")", x -> x.about(asked), want[what]);
        }
    }

    private static void lastCall() {
        CHECKS.sentence("an object is used for at most 512 calls: the last of them, too");
        AvalancheInn inn = new AvalancheInn();
        for (int i = 0; i < 511; i++) {
            inn.hour();
        }
        CHECKS.due("the 512th", inn.about(7), 511);
    }
}
