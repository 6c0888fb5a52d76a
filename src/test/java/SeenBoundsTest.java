/** The bounds of what is seen and of the time (promises 44 to 49; ==== 4), sentence by sentence. */
public final class SeenBoundsTest {
    private static final Checks CHECKS = new Checks();
    private static final int[] NO_WHAT = {-1, 2, 3, Integer.MIN_VALUE, Integer.MAX_VALUE};

    public static void main(String[] args) {
        refusedSeen();
        thirtySeen();
        hoursSeen();
        fitsAtTheEnds();
        countsFromToldToUntold();
        refusedUntell();
        times();
        sures();
        asks();
        asTold();
        theFirstRowOfTheLastLane();
        behindAnotherPass();
        CHECKS.finish();
    }

    /**
     * In the HOUR of this number (from 0) all that lies at the top of lane 1 comes down: by more than 0 a goes, by more
     * than 14 b, by more than 29 c; d never; e goes then in any case.
     */
    private static AvalancheInn inn(int hour) {
        return CHECKS.inn("lanes 2;rows 1;falls 0;lies 0 0 snow 1;lies 1 0 snow 7;tips hour = " + hour + ";"
                + "room a lane 1 bears 0;room b lane 1 bears 14;room c lane 1 bears 29;room d lane 1 bears 30;"
                + "room e lane 0 bears 0;");
    }

    private static void refusedSeen() {
        CHECKS.sentence("44: NONE, doing nothing, if one can't be");
        for (int hours : new int[] {-1, 25, 26, 60, Integer.MIN_VALUE, Integer.MAX_VALUE}) {
            CHECKS.leaves("seen(" + hours + ", 1, true)", x -> x.seen(hours, 1, true), -1);
            CHECKS.leaves("seen(" + hours + ", 1, false)", x -> x.seen(hours, 1, false), -1);
        }
        for (int room : new int[] {-1, 2, 5, Integer.MIN_VALUE, Integer.MAX_VALUE}) {
            CHECKS.leaves("seen(3, " + room + ", true)", x -> x.seen(3, room, true), -1);
        }
        CHECKS.due("no ROOMS", new AvalancheInn().seen(0, 0, false), -1);
        AvalancheInn inn = inn(3);
        CHECKS.due("seen(0, 4, false)", inn.seen(0, 4, false), 0);
        CHECKS.due("seen(24, 4, true)", inn.seen(24, 4, true), 1);
        CHECKS.due("seen(24, 5, true)", inn.seen(24, 5, true), -1);
        CHECKS.due("seen(25, 4, true)", inn.seen(25, 4, true), -1);
        CHECKS.due("about(11)", inn.about(11), 2);
        CHECKS.due("no ACT", inn.about(9), 0);
    }

    private static AvalancheInn filled(int count) {
        AvalancheInn inn = inn(23);
        for (int i = 0; i < count; i++) {
            inn.seen(0, i % 5, false);
        }
        return inn;
    }

    private static void thirtySeen() {
        CHECKS.sentence("44: its number; NONE, doing nothing, if there are 30");
        for (int count = 28; count <= 30; count++) {
            AvalancheInn inn = filled(count);
            CHECKS.due("about(11)", inn.about(11), count);
            CHECKS.due("seen behind " + count, inn.seen(24, 0, false), count < 30 ? count : -1);
            CHECKS.due("about(11) then", inn.about(11), Math.min(30, count + 1));
            CHECKS.due("fits(0)", inn.fits(0), count < 30 ? 1 : 31);
        }
        CHECKS.leaves("the 31st", () -> filled(30), x -> x.seen(24, 0, false), -1);
        CHECKS.sentence("==== 4: SEEN, 30 at most: those UNTOLD are among them");
        AvalancheInn inn = filled(30);
        CHECKS.due("untell(29)", inn.untell(29), true);
        CHECKS.due("untell(0)", inn.untell(0), true);
        CHECKS.due("seen", inn.seen(0, 0, false), -1);
        CHECKS.due("about(11)", inn.about(11), 30);
        CHECKS.due("untell(30)", inn.untell(30), false);
    }

    private static void hoursSeen() {
        CHECKS.sentence("==== 4: that behind so many HOURS (0 .. 24) a ROOM was GONE, or was not");
        int[] hours = {0, 1, 23, 24};
        for (int behind : hours) {
            // e goes in the HOUR of the number 'behind': it is not GONE behind it, but behind one more
            AvalancheInn later = inn(behind);
            later.seen(behind, 4, true);
            CHECKS.due("not GONE behind " + behind, later.fits(0), 0);
            later.untell(0);
            later.seen(behind, 4, false);
            CHECKS.due("not GONE behind " + behind, later.fits(0), 31);
            if (behind > 0) {
                AvalancheInn sooner = inn(behind - 1);
                sooner.seen(behind, 4, true);
                CHECKS.due("GONE behind " + behind, sooner.fits(0), 31);
                sooner.seen(behind, 4, false);
                CHECKS.due("both can't be", sooner.fits(0), 0);
            }
        }
        AvalancheInn stays = inn(0);
        stays.seen(24, 4, true);
        CHECKS.due("GONE stays GONE", stays.fits(0), 31);
    }

    private static void fitsDue(int room, boolean is, int fits, int least, int greatest) {
        AvalancheInn inn = inn(23);
        CHECKS.due("seen", inn.seen(24, room, is), 0);
        CHECKS.due("fits of room " + room + " " + is, inn.fits(0), fits);
        CHECKS.due("least of room " + room + " " + is, inn.sure(0, 0), least);
        CHECKS.due("greatest of room " + room + " " + is, inn.sure(1, 0), greatest);
    }

    private static void fitsAtTheEnds() {
        CHECKS.sentence("==== 4: FITS: so much (0 .. 30) by which all that counts is so");
        CHECKS.due("nothing is SEEN", inn(23).fits(0), 31);
        CHECKS.due("the least", inn(23).sure(0, 0), 0);
        CHECKS.due("the greatest", inn(23).sure(1, 0), 30);
        fitsDue(0, false, 1, 0, 0);
        fitsDue(0, true, 30, 1, 30);
        fitsDue(1, false, 15, 0, 14);
        fitsDue(1, true, 16, 15, 30);
        fitsDue(2, false, 30, 0, 29);
        fitsDue(2, true, 1, 30, 30);
        fitsDue(3, false, 31, 0, 30);
        fitsDue(3, true, 0, -1, -1);
        fitsDue(4, true, 31, 0, 30);
        fitsDue(4, false, 0, -1, -1);
        AvalancheInn inn = inn(23);
        inn.seen(24, 1, true);
        inn.seen(24, 2, false);
        CHECKS.due("between", inn.fits(0), 15);
        CHECKS.due("the least", inn.sure(0, 0), 15);
        CHECKS.due("the greatest", inn.sure(1, 0), 29);
        inn.seen(24, 0, false);
        CHECKS.due("none", inn.fits(0), 0);
    }

    private static void countsFromToldToUntold() {
        CHECKS.sentence("==== 4: counts that was TOLD at k or before, not UNTOLD at k or before");
        AvalancheInn inn = inn(23);
        inn.later(10);
        inn.seen(24, 0, false);
        inn.later(5);
        CHECKS.due("untell(0)", inn.untell(0), true);
        int[] known = {Integer.MIN_VALUE, -1, 0, 9, 10, 11, 14, 15, 16, 100001, Integer.MAX_VALUE};
        int[] fits = {31, 31, 31, 31, 1, 1, 1, 31, 31, 31, 31};
        for (int i = 0; i < known.length; i++) {
            CHECKS.due("fits(" + known[i] + ")", inn.fits(known[i]), fits[i]);
            CHECKS.due("sure(1, " + known[i] + ")", inn.sure(1, known[i]), fits[i] == 1 ? 0 : 30);
            CHECKS.due("ask(1, " + known[i] + ")", inn.ask(1, known[i]), fits[i] == 1 ? 1 : 15);
        }
        CHECKS.sentence("==== 4: UNTOLD at a later one or the same");
        AvalancheInn same = inn(23);
        same.later(10);
        same.seen(24, 0, false);
        CHECKS.due("untell(0)", same.untell(0), true);
        for (int k = 9; k <= 11; k++) {
            CHECKS.due("fits(" + k + ")", same.fits(k), 31);
        }
        AvalancheInn kept = inn(23);
        kept.seen(24, 0, false);
        kept.later(1000);
        CHECKS.due("not UNTOLD: fits(MAX)", kept.fits(Integer.MAX_VALUE), 1);
        CHECKS.due("fits(0)", kept.fits(0), 1);
        CHECKS.due("fits(-1)", kept.fits(-1), 31);
        kept.untell(0);
        CHECKS.due("UNTOLD at 1000: fits(999)", kept.fits(999), 1);
        CHECKS.due("fits(1000)", kept.fits(1000), 31);
    }

    private static void refusedUntell() {
        CHECKS.sentence("45: false if it is so already, or there is none such");
        for (int seen : new int[] {1, -1, 2, 3, 29, 30, Integer.MIN_VALUE, Integer.MAX_VALUE}) {
            CHECKS.leaves("untell(" + seen + ")", x -> x.untell(seen) ? 1 : 0, 0);
        }
        AvalancheInn inn = inn(23);
        CHECKS.due("none is SEEN", inn.untell(0), false);
        inn.seen(24, 0, false);
        CHECKS.due("untell(0)", inn.untell(0), true);
        inn.later(1);
        CHECKS.due("again, later", inn.untell(0), false);
        CHECKS.due("fits(0)", inn.fits(0), 31);
        AvalancheInn all = filled(30);
        CHECKS.due("untell(30)", all.untell(30), false);
        CHECKS.due("untell(29)", all.untell(29), true);
        CHECKS.due("untell(29) again", all.untell(29), false);
        CHECKS.due("untell(0)", all.untell(0), true);
    }

    private static AvalancheInn old() {
        AvalancheInn inn = inn(23);
        for (int i = 0; i < 99; i++) {
            inn.later(1000);
        }
        inn.later(999);
        return inn;
    }

    private static void times() {
        CHECKS.sentence("46: so much later (0 .. 1000); NONE, doing nothing, for another number");
        for (int by : new int[] {-1, 1001, 1002, 100000, Integer.MIN_VALUE, Integer.MAX_VALUE}) {
            CHECKS.leaves("later(" + by + ")", x -> x.later(by), -1);
        }
        CHECKS.leaves("later(0)", x -> x.later(0), 5);
        AvalancheInn inn = new AvalancheInn();
        CHECKS.due("later(0)", inn.later(0), 0);
        CHECKS.due("later(1)", inn.later(1), 1);
        CHECKS.due("later(999)", inn.later(999), 1000);
        CHECKS.due("later(1000)", inn.later(1000), 2000);
        CHECKS.due("about(12)", inn.about(12), 2000);
        CHECKS.sentence("46: NONE, doing nothing, if it would be above 100,000");
        CHECKS.due("about(12)", old().about(12), 99999);
        CHECKS.leaves("later(2)", SeenBoundsTest::old, x -> x.later(2), -1);
        CHECKS.leaves("later(1000)", SeenBoundsTest::old, x -> x.later(1000), -1);
        AvalancheInn last = old();
        CHECKS.due("later(1)", last.later(1), 100000);
        CHECKS.due("later(1) again", last.later(1), -1);
        CHECKS.due("later(0)", last.later(0), 100000);
        CHECKS.due("seen", last.seen(24, 0, false), 0);
        CHECKS.due("fits(99999)", last.fits(99999), 31);
        CHECKS.due("fits(100000)", last.fits(100000), 1);
    }

    private static void sures() {
        CHECKS.sentence("48, 49: NONE if none FITS, or for another what");
        for (int what : NO_WHAT) {
            CHECKS.leaves("sure(" + what + ", 5)", x -> x.sure(what, 5), -1);
            CHECKS.leaves("ask(" + what + ", 5)", x -> x.ask(what, 5), -1);
        }
        // as known at 4 both count, which can't be; at 5 the second is UNTOLD: 19 and more
        CHECKS.leaves("fits(4)", x -> x.fits(4), 0);
        CHECKS.leaves("sure(0, 4)", x -> x.sure(0, 4), -1);
        CHECKS.leaves("sure(1, 4)", x -> x.sure(1, 4), -1);
        CHECKS.leaves("ask(0, 4)", x -> x.ask(0, 4), -1);
        CHECKS.leaves("ask(1, 4)", x -> x.ask(1, 4), -1);
        CHECKS.leaves("fits(3)", x -> x.fits(3), 31);
        CHECKS.leaves("fits(5)", x -> x.fits(5), 12);
        CHECKS.leaves("sure(0, 5)", x -> x.sure(0, 5), 19);
        CHECKS.leaves("sure(1, 5)", x -> x.sure(1, 5), 30);
        CHECKS.leaves("ask(0, 5)", x -> x.ask(0, 5), 0);
        CHECKS.leaves("ask(1, 5)", x -> x.ask(1, 5), 12);
        AvalancheInn none = new AvalancheInn();
        CHECKS.due("no ROOMS: fits", none.fits(0), 31);
        CHECKS.due("no ROOMS: sure(2, 0)", none.sure(2, 0), -1);
    }

    private static void asks() {
        CHECKS.sentence("==== 4: ASK: the number of HOURS (0 .. 24); of like ones the least");
        for (int hour = 0; hour <= 25; hour++) {
            AvalancheInn inn = inn(hour);
            CHECKS.due("ask(0, 0) of hour " + hour, inn.ask(0, 0), hour < 24 ? hour + 1 : 0);
            CHECKS.due("ask(1, 0) of hour " + hour, inn.ask(1, 0), hour < 24 ? 15 : 31);
        }
        CHECKS.sentence("==== 4: ASK: would leave the fewest of these at the most");
        AvalancheInn inn = inn(23);
        inn.seen(24, 1, false);
        CHECKS.due("0, and 1 .. 14", inn.ask(1, 0), 14);
        CHECKS.due("behind", inn.ask(0, 0), 24);
        inn.seen(24, 0, true);
        CHECKS.due("1 .. 14 can't be told apart", inn.ask(1, 0), 14);
        CHECKS.due("behind", inn.ask(0, 0), 0);
        inn.untell(1);
        inn.seen(24, 0, false);
        CHECKS.due("one alone", inn.ask(1, 0), 1);
        CHECKS.due("behind", inn.ask(0, 0), 0);
        // t falls on by 1 an hour and comes down at 31: behind h it is known of 31 - h and more
        AvalancheInn slow = CHECKS.inn("lanes 1;rows 1;falls 1;tips snow > 30;room a lane 0 bears 30;");
        CHECKS.due("15 and 16", slow.ask(1, 0), 16);
        CHECKS.due("the least of two", slow.ask(0, 0), 15);
        slow.seen(15, 0, false);
        CHECKS.due("0 .. 15", slow.sure(1, 0), 15);
        CHECKS.due("8 and 8", slow.ask(1, 0), 8);
        CHECKS.due("behind", slow.ask(0, 0), 23);
        slow.seen(23, 0, false);
        CHECKS.due("0 .. 7", slow.fits(0), 8);
        CHECKS.due("0 .. 6 and 7", slow.ask(1, 0), 7);
        CHECKS.due("behind", slow.ask(0, 0), 24);
        slow.seen(24, 0, false);
        CHECKS.due("0 .. 6", slow.fits(0), 7);
        CHECKS.due("no more to be told", slow.ask(1, 0), 7);
        CHECKS.due("behind", slow.ask(0, 0), 0);
    }

    private static void asTold() {
        CHECKS.sentence("==== 4: of the pass as it was told (nothing is done but HOURS, no wind)");
        AvalancheInn inn = CHECKS.inn("lanes 2;rows 2;falls 0;wind 100;lies 1 1 snow 4;"
                + "tips row = 0 and hour = 1 and noise < 9;room a lane 1 bears 13;room b lane 0 bears 13;"
                + "guest g room b noise 9 from 5 to 6;");
        inn.seen(2, 0, true);
        CHECKS.due("10 and more", inn.sure(0, 0), 10);
        inn.hour();
        inn.shout(1, 8);
        inn.shovel(1, 1);
        inn.wall(1, 1, 1);
        inn.move(0, 0);
        inn.hush(0);
        CHECKS.due("10 and more", inn.sure(0, 0), 10);
        CHECKS.due("21", inn.fits(0), 21);
        inn.image(0);
        inn.hour();
        inn.back(0);
        inn.seen(24, 0, true);
        CHECKS.due("21", inn.fits(0), 21);
        inn.undo();
        CHECKS.due("ask(0, -1)", inn.ask(0, -1), 2);
        CHECKS.due("ask(1, -1)", inn.ask(1, -1), 21);
    }

    private static void theFirstRowOfTheLastLane() {
        CHECKS.sentence("==== 4: how much SNOW lay in the first row of the last lane");
        int[][] sizes = {{1, 1}, {1, 5}, {6, 1}, {6, 5}, {2, 3}};
        for (int[] size : sizes) {
            StringBuilder text = new StringBuilder("lanes " + size[0] + ";rows " + size[1] + ";falls 0;tips row = 0;");
            for (int lane = 0; lane < size[0]; lane++) {
                text.append("lies ").append(lane).append(" 0 snow 3;");
            }
            text.append("room a lane 0 bears 2;room b lane ").append(size[0] - 1).append(" bears 20;");
            AvalancheInn inn = CHECKS.inn(text.toString());
            inn.seen(1, 1, true);
            CHECKS.due("lanes " + size[0] + " rows " + size[1], inn.sure(0, 0), 21);
            CHECKS.due("fits", inn.fits(0), 10);
            inn.seen(1, 0, true);
            CHECKS.due("the first lane is as told, if it is not the last", inn.fits(0), 10);
        }
        AvalancheInn row = CHECKS.inn("lanes 1;rows 2;falls 0;lies 0 1 snow 5;tips row = 1;room a lane 0 bears 4;");
        row.seen(1, 0, true);
        CHECKS.due("the second row is as told", row.fits(0), 31);
    }

    private static void behindAnotherPass() {
        CHECKS.sentence("4: nothing is SEEN then; the TIME stays");
        AvalancheInn inn = filled(30);
        inn.later(7);
        CHECKS.due("fits", inn.fits(7), 31);
        Texts.tell(inn, "lanes 1;rows 1;falls 0;tips 1;room a lane 0 bears 9;");
        CHECKS.due("about(11)", inn.about(11), 0);
        CHECKS.due("about(12)", inn.about(12), 7);
        CHECKS.due("untell(0)", inn.untell(0), false);
        CHECKS.due("seen", inn.seen(1, 0, true), 0);
        CHECKS.due("of the new PASS", inn.sure(0, 7), 10);
        CHECKS.due("fits(6)", inn.fits(6), 31);
        CHECKS.due("seen(1, 1, true): there is one ROOM", inn.seen(1, 1, true), -1);
        CHECKS.due("a FAULT", Texts.tell(inn, "#"), -1);
        CHECKS.due("all stays", inn.fits(7), 21);
    }
}
