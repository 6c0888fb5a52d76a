import java.math.BigInteger;

/** The bounds of what is foreseen (promises 20 to 43; ==== 3), sentence by sentence. */
public final class ForesightBoundsTest {
    private static final Checks CHECKS = new Checks();
    private static final int[] NOT_FAR = {-1, 61, 62, Integer.MIN_VALUE, Integer.MAX_VALUE};
    private static final int[] NOT_NEAR = {-1, 25, 26, 60, Integer.MIN_VALUE, Integer.MAX_VALUE};
    private static final int[] NO_LANE = {-1, 2, 3, Integer.MIN_VALUE, Integer.MAX_VALUE};

    public static void main(String[] args) {
        wills();
        depths();
        leftAndPurse();
        whens();
        nexts();
        firsts();
        tracks();
        leasts();
        placesHours();
        placesFirst();
        placesOfMany();
        hushes();
        hushSets();
        dams();
        damFirst();
        widestSlope();
        brunts();
        digs();
        duels();
        duelGains();
        fears();
        bornes();
        poors();
        awakes();
        laws();
        odds();
        whatLies();
        byWhatIsNow();
        noWind();
        CHECKS.finish();
    }

    /** In the HOUR of this number (from 0) 5 come on lane 0, by which a room of rate 3 goes; one of 2 stays. */
    private static AvalancheInn timer(int hour) {
        return CHECKS.inn("lanes 2;rows 1;falls 0;lies 0 0 snow 5;tips hour = " + hour + ";"
                + "room a lane 0 bears 4 rate 3;room b lane 1 bears 4 rate 2;");
    }

    private static void wills() {
        CHECKS.sentence("20: behind n HOURS (0 .. 60); wind (what 1), none (0); NONE if one can't be");
        for (int n : NOT_FAR) {
            CHECKS.leaves("will(" + n + ", 0)", x -> x.will(n, 0), -1);
            CHECKS.leaves("will(" + n + ", 1)", x -> x.will(n, 1), -1);
        }
        for (int what : new int[] {-1, 2, 3, Integer.MIN_VALUE, Integer.MAX_VALUE}) {
            CHECKS.leaves("will(5, " + what + ")", x -> x.will(5, what), -1);
        }
        CHECKS.leaves("will(0, 0)", x -> x.will(0, 0), 1);
        CHECKS.leaves("will(20, 0)", x -> x.will(20, 0), 1);
        CHECKS.leaves("will(21, 0)", x -> x.will(21, 0), 3);
        CHECKS.leaves("will(60, 0)", x -> x.will(60, 0), 3);
        CHECKS.due("will(59, 0)", timer(59).will(59, 0), 0);
        CHECKS.due("will(60, 0)", timer(59).will(60, 0), 1);
        CHECKS.due("will(60, 1)", timer(59).will(60, 1), 1);
        CHECKS.due("will(60, 0): in the next", timer(60).will(60, 0), 0);
        CHECKS.due("will(0, 0)", timer(0).will(0, 0), 0);
        CHECKS.due("will(1, 0)", timer(0).will(1, 0), 1);
        // the SEED: 0, 71, 798, 397, 460
        AvalancheInn windy = CHECKS.inn("lanes 1;rows 1;falls 0;wind 98;room a lane 0 bears 2;tips snow > 2;");
        CHECKS.due("71 is less", windy.will(1, 1), 1);
        CHECKS.due("no wind", windy.will(1, 0), 0);
        AvalancheInn calm = CHECKS.inn("lanes 1;rows 1;falls 0;wind 71;room a lane 0 bears 2;tips snow > 2;");
        CHECKS.due("71 and 98 are not", calm.will(2, 1), 0);
        CHECKS.due("nor 97", calm.will(3, 1), 0);
        CHECKS.due("60 is", calm.will(4, 1), 1);
        CHECKS.due("no wind", calm.will(60, 0), 0);
        AvalancheInn on = CHECKS.inn("lanes 1;rows 1;falls 0;wind 71;room a lane 0 bears 2;tips snow > 2;");
        on.hour();
        on.hour();
        CHECKS.due("as the SEED tells now", on.will(1, 1), 0);
        CHECKS.due("and on", on.will(2, 1), 1);
        CHECKS.due("so it comes", on.hour(), 0);
        CHECKS.due("so it comes", on.hour(), 1);
    }

    private static void depths() {
        CHECKS.sentence("21: SNOW in a CELL behind n HOURS (0 .. 60); NONE if one can't be");
        for (int n : NOT_FAR) {
            CHECKS.leaves("depth(0, 0, " + n + ")", x -> x.depth(0, 0, n), -1);
        }
        for (int other : NO_LANE) {
            CHECKS.leaves("depth(" + other + ", 0, 5)", x -> x.depth(other, 0, 5), -1);
            CHECKS.leaves("depth(0, " + other + ", 5)", x -> x.depth(0, other, 5), -1);
        }
        CHECKS.leaves("depth(1, 0, 0)", x -> x.depth(1, 0, 0), 3);
        CHECKS.leaves("depth(1, 0, 5)", x -> x.depth(1, 0, 5), 8);
        CHECKS.leaves("depth(1, 0, 6)", x -> x.depth(1, 0, 6), 0);
        CHECKS.leaves("depth(1, 1, 5)", x -> x.depth(1, 1, 5), 6);
        CHECKS.leaves("depth(1, 1, 7)", x -> x.depth(1, 1, 7), 1);
        AvalancheInn inn = CHECKS.inn("lanes 6;rows 5;tips 0;");
        CHECKS.due("depth(5, 4, 59)", inn.depth(5, 4, 59), 59);
        CHECKS.due("depth(5, 4, 60)", inn.depth(5, 4, 60), 60);
        CHECKS.due("depth(5, 4, 61)", inn.depth(5, 4, 61), -1);
        CHECKS.due("depth(6, 4, 60)", inn.depth(6, 4, 60), -1);
        CHECKS.due("depth(5, 5, 60)", inn.depth(5, 5, 60), -1);
        CHECKS.due("no wind", CHECKS.inn("lanes 1;tips 0;wind 100;").depth(0, 0, 60), 60);
    }

    private static void leftAndPurse() {
        CHECKS.sentence("22: LEFT behind n HOURS (0 .. 60); NONE for another n");
        for (int n : NOT_FAR) {
            CHECKS.leaves("left(" + n + ")", x -> x.left(n), -1);
            CHECKS.leaves("purse(" + n + ")", x -> x.purse(n), -1);
        }
        CHECKS.leaves("left(0)", x -> x.left(0), 1);
        CHECKS.leaves("left(20)", x -> x.left(20), 1);
        CHECKS.leaves("left(21)", x -> x.left(21), 0);
        CHECKS.leaves("left(60)", x -> x.left(60), 0);
        CHECKS.due("left(59)", timer(59).left(59), 5);
        CHECKS.due("left(60)", timer(59).left(60), 2);
        CHECKS.due("left(0)", timer(0).left(0), 5);
        CHECKS.due("left(1)", timer(0).left(1), 2);
        CHECKS.due("left(60): no ROOMS", new AvalancheInn().left(60), 0);
        StringBuilder text = new StringBuilder("tips 0;");
        for (char name = 'a'; name <= 'e'; name++) {
            text.append("room ").append(name).append(" lane 0 bears 0 rate 20;");
        }
        CHECKS.due("five of 20", CHECKS.inn(text.toString()).left(60), 100);
        CHECKS.sentence("23: the PURSE behind n HOURS (0 .. 60); NONE for another n");
        CHECKS.leaves("purse(0)", x -> x.purse(0), 5);
        CHECKS.leaves("purse(20)", x -> x.purse(20), 25);
        CHECKS.leaves("purse(21)", x -> x.purse(21), 25);
        CHECKS.leaves("purse(60)", x -> x.purse(60), 25);
        CHECKS.due("purse(59)", timer(59).purse(59), 295);
        CHECKS.due("purse(60)", timer(59).purse(60), 297);
        CHECKS.due("five of 20, 60 times", CHECKS.inn(text.toString()).purse(60), 6000);
    }

    private static void whens() {
        CHECKS.sentence("24: behind how many HOURS a ROOM is GONE first (0 .. 60); NONE if not in these, or none such");
        for (int other : NO_LANE) {
            CHECKS.leaves("when(" + other + ")", x -> x.when(other), -1);
        }
        CHECKS.leaves("when(0): GONE now", x -> x.when(0), 0);
        CHECKS.leaves("when(1)", x -> x.when(1), 21);
        CHECKS.due("in the first", timer(0).when(0), 1);
        CHECKS.due("in the 59th", timer(58).when(0), 59);
        CHECKS.due("in the 60th", timer(59).when(0), 60);
        CHECKS.due("in the 61st", timer(60).when(0), -1);
        CHECKS.due("never", timer(0).when(1), -1);
        AvalancheInn on = timer(60);
        on.hour();
        CHECKS.due("an hour later it is in these", on.when(0), 60);
        CHECKS.due("no ROOMS", new AvalancheInn().when(0), -1);
    }

    private static void nexts() {
        CHECKS.sentence("25: in which HOUR of the next 60 (1 ..) some CELL TIPS first; NONE if in none");
        CHECKS.leaves("next()", AvalancheInn::next, 6);
        CHECKS.due("in the first", timer(0).next(), 1);
        CHECKS.due("in the 59th", timer(58).next(), 59);
        CHECKS.due("in the 60th", timer(59).next(), 60);
        CHECKS.due("in the 61st", timer(60).next(), -1);
        AvalancheInn on = timer(60);
        on.hour();
        CHECKS.due("an hour later", on.next(), 60);
        CHECKS.due("no SNOW", CHECKS.inn("falls 0;tips 1;").next(), -1);
        CHECKS.due("it falls first", CHECKS.inn("falls 1;tips 1;").next(), 1);
        CHECKS.due("now it would, in the next hour not", CHECKS.inn("falls 1;lies 0 0 snow 3;tips snow = 3;").next(), 3);
        CHECKS.due("aside counts", CHECKS.inn("lanes 1;rows 2;falls 0;lies 0 0 snow 3;wall 0 1 left;tips hour = 4;")
                .next(), 5);
    }

    private static void firsts() {
        CHECKS.sentence("26: in which HOUR a LOAD comes on a lane first; NONE if in none, or there is none such");
        for (int other : NO_LANE) {
            CHECKS.leaves("first(" + other + ")", x -> x.first(other), -1);
        }
        CHECKS.leaves("first(0)", x -> x.first(0), 21);
        CHECKS.leaves("first(1)", x -> x.first(1), 6);
        CHECKS.due("in the first", timer(0).first(0), 1);
        CHECKS.due("in the 59th", timer(58).first(0), 59);
        CHECKS.due("in the 60th", timer(59).first(0), 60);
        CHECKS.due("in the 61st", timer(60).first(0), -1);
        CHECKS.due("on the other lane none", timer(0).first(1), -1);
        AvalancheInn aside = CHECKS.inn("lanes 1;rows 2;falls 0;lies 0 0 snow 3;wall 0 1 left;tips 1;");
        CHECKS.due("aside comes on none", aside.first(0), -1);
        AvalancheInn most = CHECKS.inn("lanes 6;");
        CHECKS.due("first(5)", most.first(5), 14);
        CHECKS.due("first(6)", most.first(6), -1);
        CHECKS.due("a LOAD of 1", CHECKS.inn("lanes 2;rows 2;falls 0;lies 1 1 snow 1;tips hour = 2;").first(1), 3);
        AvalancheInn turned = CHECKS.inn("lanes 2;rows 2;falls 0;lies 0 0 snow 3;wall 0 1 right;tips hour = 2;");
        CHECKS.due("turned away", turned.first(0), -1);
        CHECKS.due("turned here", turned.first(1), 3);
    }

    private static void tracks() {
        CHECKS.sentence("27: -2 if there is none such, or for another what");
        for (int other : NO_LANE) {
            CHECKS.leaves("track(" + other + ", 0, 0)", x -> x.track(other, 0, 0), -2);
            CHECKS.leaves("track(0, " + other + ", 1)", x -> x.track(0, other, 1), -2);
            CHECKS.leaves("track(0, 0, " + other + ")", x -> x.track(0, 0, other), -2);
        }
        CHECKS.sentence("27: the lane (-1: it goes aside), how much (0: aside)");
        CHECKS.leaves("track(0, 0, 0)", x -> x.track(0, 0, 0), -1);
        CHECKS.leaves("track(0, 0, 1)", x -> x.track(0, 0, 1), 0);
        CHECKS.leaves("track(0, 1, 0)", x -> x.track(0, 1, 0), 0);
        CHECKS.leaves("track(0, 1, 1): no SNOW", x -> x.track(0, 1, 1), 0);
        CHECKS.leaves("track(1, 0, 0)", x -> x.track(1, 0, 0), 1);
        CHECKS.leaves("track(1, 0, 1)", x -> x.track(1, 0, 1), 4);
        CHECKS.leaves("track(1, 1, 1)", x -> x.track(1, 1, 1), 1);
        AvalancheInn inn = CHECKS.inn("lanes 6;rows 5;lies 5 0 snow 30;lies 5 4 snow 30;lies 4 1 snow 7;wall 4 2 right;");
        CHECKS.due("from the top", inn.track(5, 0, 1), 60);
        CHECKS.due("from a CELL without SNOW", inn.track(5, 1, 1), 30);
        CHECKS.due("turned", inn.track(4, 1, 0), 5);
        CHECKS.due("turned", inn.track(4, 1, 1), 37);
        CHECKS.due("track(6, 0, 0)", inn.track(6, 0, 0), -2);
        CHECKS.due("track(5, 5, 0)", inn.track(5, 5, 0), -2);
    }

    private static void leasts() {
        CHECKS.sentence("28: LEAST SHOUT (0 .. 99); NONE if by none, or there is none such");
        for (int other : NO_LANE) {
            CHECKS.leaves("least(" + other + ")", x -> x.least(other), -1);
        }
        CHECKS.leaves("least(0): no SNOW", x -> x.least(0), -1);
        CHECKS.leaves("least(1)", x -> x.least(1), 26);
        String text = "lanes 2;rows 2;lies 1 1 snow 3;room a lane 1 bears 0;"
                + "guest g room a noise 5 from 0 to 47;tips noise > ";
        CHECKS.due("5 is not enough", CHECKS.inn(text + "4;").least(1), 0);
        CHECKS.due("1", CHECKS.inn(text + "5;").least(1), 1);
        CHECKS.due("98", CHECKS.inn(text + "102;").least(1), 98);
        CHECKS.due("99", CHECKS.inn(text + "103;").least(1), 99);
        CHECKS.due("100", CHECKS.inn(text + "104;").least(1), -1);
        CHECKS.due("the other lane has no SNOW", CHECKS.inn(text + "4;").least(0), -1);
        AvalancheInn two = CHECKS.inn("lanes 1;rows 2;lies 0 0 snow 3;lies 0 1 snow 4;tips noise * row > 20 or noise > 50;");
        CHECKS.due("the lower CELL", two.least(0), 21);
        AvalancheInn high = CHECKS.inn("lanes 6;rows 5;lies 1 0 snow 3;lies 5 4 snow 3;tips noise > 2;");
        CHECKS.due("lane 0 has no SNOW", high.least(0), -1);
        CHECKS.due("the first row", high.least(1), 3);
        CHECKS.due("the last lane and row", high.least(5), 3);
    }

    private static void placesHours() {
        CHECKS.sentence("29: PLACES (n 0 .. 24); NONE, nothing, for another n");
        for (int n : NOT_NEAR) {
            AvalancheInn inn = Checks.lived();
            CHECKS.due("places(" + n + ")", inn.places(n), -1);
            CHECKS.due("nothing lies there", inn.about(15), 0);
            CHECKS.due("lies(0)", inn.lies(0), -2);
            AvalancheInn other = Checks.lived();
            other.duel(0, 0);
            CHECKS.same("places(" + n + ")", View.whole(inn), View.whole(other));
        }
        int[] lanes = {0, 0, 1};
        for (int n = 22; n <= 24; n++) {
            AvalancheInn inn = CHECKS.inn("lanes 2;rows 1;falls 0;lies 0 0 snow 5;tips hour = 23;"
                    + "room a lane 0 bears 4 rate 3;");
            CHECKS.due("places(" + n + ")", inn.places(n), 3);
            CHECKS.due("in lane", inn.lies(0), lanes[n - 22]);
            CHECKS.due("nothing is done", inn.room(0, 0), 0);
        }
        AvalancheInn none = timer(0);
        CHECKS.due("places(0)", none.places(0), 5);
        CHECKS.due("a", none.lies(0), 0);
        CHECKS.due("b", none.lies(1), 0);
        CHECKS.due("no more", none.lies(2), -2);
        CHECKS.leaves("places(3), as before", x -> x.places(3), 1);
        CHECKS.due("no ROOMS", new AvalancheInn().places(24), 0);
        AvalancheInn five = CHECKS.inn("lanes 6;rows 1;falls 0;lies 0 0 snow 9;lies 1 0 snow 7;lies 2 0 snow 5;"
                + "lies 3 0 snow 3;lies 4 0 snow 1;tips 1;room a lane 0 bears 0;room b lane 0 bears 1 rate 20;"
                + "room c lane 0 bears 4;room d lane 0 bears 8;room e lane 0 bears 9;");
        CHECKS.due("places(1)", five.places(1), 24);
        int[] want = {5, 4, 3, 1, 0};
        for (int i = 0; i < 5; i++) {
            CHECKS.due("lies(" + i + ")", five.lies(i), want[i]);
        }
        CHECKS.due("lies(5)", five.lies(5), -2);
        CHECKS.due("about(15)", five.about(15), 5);
    }

    private static void placesFirst() {
        CHECKS.sentence("==== 3: PLACES: of like ones the first (ROOM by ROOM: the least lane; GONE ones stay)");
        // all lanes are swept: none is left anywhere, so each is best in lane 0
        AvalancheInn swept = CHECKS.inn("lanes 3;rows 1;falls 9;tips 1;room a lane 2 bears 1;room b lane 1 bears 1;");
        CHECKS.due("places(1)", swept.places(1), 0);
        CHECKS.due("a", swept.lies(0), 0);
        CHECKS.due("b", swept.lies(1), 0);
        // a room that brings nothing is best in lane 0, too
        AvalancheInn free = CHECKS.inn("lanes 2;rows 1;falls 0;lies 0 0 snow 9;tips 1;room a lane 1 bears 1 rate 0;"
                + "room b lane 0 bears 1;");
        CHECKS.due("places(1)", free.places(1), 1);
        CHECKS.due("a", free.lies(0), 0);
        CHECKS.due("b", free.lies(1), 1);
        // one of two that sing must leave lane 0: of like ones the second
        String apart = "lanes 2;rows 1;falls 0;lies 0 0 snow 9;lies 1 0 snow 9;tips noise > 9;room a lane 1 bears 1%s;"
                + "room b lane 1 bears 1%s;guest p room a noise 5 from 0 to 47;guest q room b noise 5 from 0 to 47;";
        AvalancheInn alike = CHECKS.inn(apart.formatted("", ""));
        CHECKS.due("places(1)", alike.places(1), 2);
        CHECKS.due("a", alike.lies(0), 0);
        CHECKS.due("b", alike.lies(1), 1);
        alike.shout(1, 0);
        CHECKS.due("both are GONE", alike.places(1), 0);
        CHECKS.due("a stays", alike.lies(0), 1);
        CHECKS.due("b stays", alike.lies(1), 1);
        alike.build(1);
        CHECKS.due("one STANDS", alike.places(1), 1);
        CHECKS.due("a stays", alike.lies(0), 1);
        CHECKS.due("b", alike.lies(1), 0);
        // hushed, they may be together
        AvalancheInn hushed = CHECKS.inn(apart.formatted("", ""));
        hushed.hush(0);
        CHECKS.due("places(1)", hushed.places(1), 2);
        CHECKS.due("a", hushed.lies(0), 0);
        CHECKS.due("b", hushed.lies(1), 0);
        // only one lane can be kept, as snow of lane 0 comes always: the dearer one has it alone
        AvalancheInn dear = CHECKS.inn(apart.formatted(" rate 2", " rate 3").replace("noise > 9", "noise > 9 or snow = 8")
                .replace("0 0 snow 9", "0 0 snow 8"));
        CHECKS.due("places(1)", dear.places(1), 3);
        CHECKS.due("a", dear.lies(0), 0);
        CHECKS.due("b", dear.lies(1), 1);
    }

    private static void placesOfMany() {
        CHECKS.sentence("==== 3: PLACES: of all ways, the last of them too");
        StringBuilder last = new StringBuilder("lanes 6;rows 1;falls 0;tips snow > 0 or noise > 999;");
        StringBuilder guests = new StringBuilder();
        for (int i = 0; i < 5; i++) {
            last.append("lies ").append(i).append(" 0 snow 9;room ").append((char) ('a' + i)).append(" lane 0 bears 1;");
            guests.append("guest ").append((char) ('a' + i)).append(" room ").append((char) ('a' + i));
            guests.append(" noise 1 from 0 to 47;");
        }
        AvalancheInn inn = CHECKS.inn(last.toString() + guests);
        CHECKS.due("places(1)", inn.places(1), 5);
        for (int i = 0; i < 5; i++) {
            CHECKS.due("lies(" + i + ")", inn.lies(i), 5);
        }
        CHECKS.sentence("==== 3: PLACES: noise of 1 counts, by the formula that is not told, too");
        // 13 * 3 + 1 - 40 is 0, and 13 * 3 + 2 - 40 is above it: two that sing must be apart
        StringBuilder usual = new StringBuilder("lanes 3;rows 1;falls 0;");
        for (int i = 0; i < 3; i++) {
            usual.append("lies ").append(i).append(" 0 snow 13;room ").append((char) ('a' + i)).append(" lane 2 bears 1;");
            usual.append("guest ").append((char) ('a' + i)).append(" room ").append((char) ('a' + i));
            usual.append(" noise 1 from 0 to 47;");
        }
        AvalancheInn apart = CHECKS.inn(usual.toString());
        CHECKS.due("places(24)", apart.places(24), 3);
        CHECKS.due("a, b, c", apart.lies(0) * 100 + apart.lies(1) * 10 + apart.lies(2), 12);
        apart.hush(1);
        CHECKS.due("places(24)", apart.places(24), 3);
        CHECKS.due("b is HUSHED", apart.lies(0) * 100 + apart.lies(1) * 10 + apart.lies(2), 1);
        CHECKS.sentence("==== 3: PLACES: ROOM by ROOM: a room that is still may count more than one that sings");
        // b sings lane 0 down, which a would not bear: a in lane 0 is ahead of b in lane 0
        AvalancheInn still = CHECKS.inn("lanes 2;rows 1;falls 0;lies 0 0 snow 9;lies 1 0 snow 9;room a lane 1 bears 1;"
                + "room b lane 1 bears 9;guest g room b noise 1 from 0 to 47;tips noise > 0;");
        CHECKS.due("places(1)", still.places(1), 2);
        CHECKS.due("a, b", still.lies(0) * 10 + still.lies(1), 1);
        // and the other way round, b is told first
        AvalancheInn loud = CHECKS.inn("lanes 2;rows 1;falls 0;lies 0 0 snow 9;lies 1 0 snow 9;room b lane 1 bears 9;"
                + "room a lane 1 bears 1;guest g room b noise 1 from 0 to 47;tips noise > 0;");
        CHECKS.due("places(1)", loud.places(1), 2);
        CHECKS.due("b, a", loud.lies(0) * 10 + loud.lies(1), 1);
        // a still room that can't be left stays in lane 0, wherever the one that sings is
        AvalancheInn lost = CHECKS.inn("lanes 3;rows 1;falls 0;lies 0 0 snow 8;lies 1 0 snow 9;lies 2 0 snow 9;"
                + "room b lane 1 bears 9 rate 5;room a lane 1 bears 1;guest g room b noise 1 from 0 to 47;"
                + "tips snow = 9 or noise > 0 and snow = 8;");
        CHECKS.due("places(1): a in lane 0, b not", lost.places(1), 6);
        CHECKS.due("b, a", lost.lies(0) * 10 + lost.lies(1), 10);
        AvalancheInn sooner = CHECKS.inn("lanes 3;rows 1;falls 0;lies 0 0 snow 8;lies 1 0 snow 9;lies 2 0 snow 9;"
                + "room b lane 1 bears 8 rate 5;room a lane 1 bears 1;guest g room b noise 1 from 0 to 47;"
                + "tips snow = 9 or noise > 0 and snow = 8;");
        CHECKS.due("places(1): b in lane 0, a lost", sooner.places(1), 5);
        CHECKS.due("b, a", sooner.lies(0) * 10 + sooner.lies(1), 0);
        // with b in lane 0, a is left in lane 1; better is b in lane 1, and then a is lost in any lane: the first
        AvalancheInn dearer = CHECKS.inn("lanes 2;rows 1;falls 0;lies 0 0 snow 9;lies 1 0 snow 1;tips snow = 9 or noise > 0;"
                + "room b lane 0 bears 1 rate 5;room a lane 0 bears 0;guest g room b noise 1 from 0 to 47;");
        CHECKS.due("places(1)", dearer.places(1), 5);
        CHECKS.due("b, a", dearer.lies(0) * 10 + dearer.lies(1), 10);
    }

    private static void hushes() {
        CHECKS.sentence("30: HUSH (n 0 .. 24) what 0, 1; NONE if by none, or one can't be");
        for (int n : NOT_NEAR) {
            CHECKS.leaves("quiet(" + n + ", 0)", x -> x.quiet(n, 0), -1);
            CHECKS.leaves("quiet(" + n + ", 1)", x -> x.quiet(n, 1), -1);
        }
        for (int what : new int[] {-1, 2, 3, Integer.MIN_VALUE, Integer.MAX_VALUE}) {
            CHECKS.leaves("quiet(2, " + what + ")", x -> x.quiet(2, what), -1);
        }
        CHECKS.leaves("quiet(20, 0)", x -> x.quiet(20, 0), 0);
        CHECKS.leaves("quiet(20, 1)", x -> x.quiet(20, 1), 0);
        CHECKS.leaves("quiet(21, 0): by none", x -> x.quiet(21, 0), -1);
        CHECKS.leaves("quiet(21, 1): by none", x -> x.quiet(21, 1), -1);
        AvalancheInn inn = CHECKS.inn("lanes 1;rows 1;falls 0;lies 0 0 snow 9;tips noise > 3 and hour = 23;"
                + "room a lane 0 bears 1;guest p room a noise 3 from 0 to 47;guest q room a noise 4 from 0 to 47;");
        CHECKS.due("quiet(23, 0)", inn.quiet(23, 0), 0);
        CHECKS.due("quiet(23, 1)", inn.quiet(23, 1), 0);
        CHECKS.due("quiet(24, 0)", inn.quiet(24, 0), 1);
        CHECKS.due("quiet(24, 1)", inn.quiet(24, 1), 2);
        CHECKS.due("quiet(25, 1)", inn.quiet(25, 1), -1);
        CHECKS.due("nothing is done", inn.about(5), 0);
        CHECKS.due("no GUESTS, no ROOMS", new AvalancheInn().quiet(24, 0), 0);
        CHECKS.due("no GUESTS", timer(0).quiet(1, 0), -1);
        CHECKS.due("no HOURS", timer(0).quiet(0, 0), 0);
    }

    private static void hushSets() {
        CHECKS.sentence("==== 3: HUSH: the fewest GUESTS, not HUSHED yet; of like ones the least set as bits");
        StringBuilder text = new StringBuilder("lanes 1;rows 1;falls 0;lies 0 0 snow 9;room a lane 0 bears 1;");
        for (char name = 'a'; name <= 'f'; name++) {
            text.append("guest ").append(name).append(" room a noise 1 from 0 to 47;");
        }
        for (int more = 0; more <= 6; more++) {
            AvalancheInn inn = CHECKS.inn(text + "tips noise > " + more + ";");
            CHECKS.due("how many", inn.quiet(3, 0), 6 - more);
            CHECKS.due("who", inn.quiet(3, 1), (1 << 6 - more) - 1);
            inn.hush(0);
            inn.hush(2);
            int fewer = Math.max(0, 4 - more);
            int[] sets = {0, 2, 10, 26, 58};
            CHECKS.due("how many more", inn.quiet(3, 0), fewer);
            CHECKS.due("who of the others", inn.quiet(3, 1), sets[fewer]);
        }
        // one loud one ahead of two still ones, though its bits are more
        AvalancheInn loud = CHECKS.inn("lanes 1;rows 1;falls 0;lies 0 0 snow 9;room a lane 0 bears 1;tips noise > 4;"
                + "guest p room a noise 2 from 0 to 47;guest q room a noise 2 from 0 to 47;"
                + "guest r room a noise 5 from 0 to 47;");
        CHECKS.due("how many", loud.quiet(3, 0), 1);
        CHECKS.due("who", loud.quiet(3, 1), 4);
        CHECKS.sentence("==== 3: HUSH: no ROOM that STANDS is GONE (one that is GONE already counts not)");
        AvalancheInn gone = CHECKS.inn("lanes 2;rows 1;falls 0;lies 0 0 snow 9;lies 1 0 snow 9;room a lane 0 bears 1;"
                + "room b lane 1 bears 1;tips hour = 0 and noise > 2 or hour = 1 and noise > 3;"
                + "guest p room a noise 3 from 0 to 47;guest q room b noise 4 from 1 to 47;");
        CHECKS.due("both", gone.quiet(2, 1), 3);
        CHECKS.due("a goes", gone.hour(), 1);
        CHECKS.due("q alone", gone.quiet(1, 1), 2);
        CHECKS.due("b goes", gone.hour(), 2);
        CHECKS.due("none", gone.quiet(24, 1), 0);
        // to hush p makes it worse: the set is not one that grows by the worst
        AvalancheInn odd = CHECKS.inn("lanes 1;rows 1;falls 0;lies 0 0 snow 9;room a lane 0 bears 1;tips noise % 2 = 1;"
                + "guest p room a noise 1 from 0 to 47;guest q room a noise 2 from 0 to 47;");
        CHECKS.due("p alone", odd.quiet(1, 1), 1);
        AvalancheInn even = CHECKS.inn("lanes 1;rows 1;falls 0;lies 0 0 snow 9;room a lane 0 bears 1;tips noise % 2 = 0;"
                + "guest p room a noise 1 from 0 to 47;guest q room a noise 2 from 0 to 47;");
        CHECKS.due("none: 3 is odd", even.quiet(1, 1), 0);
        even.hush(0);
        CHECKS.due("by none", even.quiet(1, 1), -1);
    }

    private static void dams() {
        CHECKS.sentence("31: DAM (n 0 .. 24) what 0 .. 3; NONE if there is none, or one can't be");
        for (int n : NOT_NEAR) {
            for (int what = 0; what < 4; what++) {
                int asked = what;
                CHECKS.leaves("dam(" + n + ", " + what + ")", x -> x.dam(n, asked), -1);
            }
        }
        for (int what : new int[] {-1, 4, 5, Integer.MIN_VALUE, Integer.MAX_VALUE}) {
            CHECKS.leaves("dam(24, " + what + ")", x -> x.dam(24, what), -1);
        }
        // left alone, lane 0 brings 21 at once in the 21st; by the wall lane 1 brings it along in time
        int[] want = {1, 1, 1, 1};
        for (int what = 0; what < 4; what++) {
            int asked = what;
            CHECKS.leaves("dam(20, " + what + "): none is more than now", x -> x.dam(20, asked), -1);
            CHECKS.leaves("dam(21, " + what + ")", x -> x.dam(21, asked), want[what]);
            CHECKS.leaves("dam(24, " + what + ")", x -> x.dam(24, asked), want[what]);
            CHECKS.leaves("dam(0, " + what + ")", x -> x.dam(0, asked), -1);
        }
        AvalancheInn inn = CHECKS.inn("lanes 1;rows 2;falls 0;lies 0 0 snow 5;tips row = 0 and hour = 23;"
                + "room a lane 0 bears 4 rate 7;");
        int[] dam = {0, 1, 1, 7};
        for (int what = 0; what < 4; what++) {
            CHECKS.due("dam(23, " + what + ")", inn.dam(23, what), -1);
            CHECKS.due("dam(24, " + what + ")", inn.dam(24, what), dam[what]);
        }
        CHECKS.due("nothing is done", inn.cell(0, 1, 1), 0);
        CHECKS.due("no ACT", inn.about(9), 0);
    }

    private static void damDue(String text, int lane, int row, int side, int left) {
        AvalancheInn inn = CHECKS.inn(text);
        CHECKS.due("lane of " + text, inn.dam(1, 0), lane);
        CHECKS.due("row of " + text, inn.dam(1, 1), row);
        CHECKS.due("side of " + text, inn.dam(1, 2), side);
        CHECKS.due("LEFT of " + text, inn.dam(1, 3), left);
    }

    private static void damFirst() {
        CHECKS.sentence("==== 3: DAM: the CELL without a WALL and the side (left ahead of right)");
        String one = "lanes 3;rows 3;falls 0;lies 1 0 snow 5;tips row = 0;";
        damDue(one + "room a lane 1 bears 1;", 1, 1, 1, 1);
        damDue(one + "room a lane 1 bears 1;room b lane 0 bears 1;", 1, 1, 2, 2);
        damDue(one + "room a lane 1 bears 1;room b lane 0 bears 1;room c lane 2 bears 1;", -1, -1, -1, -1);
        damDue(one + "room a lane 1 bears 1;room b lane 0 bears 1;room c lane 2 bears 1 rate 0;", 1, 1, 2, 2);
        damDue(one + "wall 1 1 left;wall 0 2 right;room a lane 1 bears 1;", -1, -1, -1, -1);
        damDue(one + "wall 1 1 left;room a lane 0 bears 1;", 0, 2, 1, 1);
        damDue(one + "wall 1 1 left;room a lane 0 bears 1;wall 0 2 right;", -1, -1, -1, -1);
        CHECKS.sentence("==== 3: DAM: of like ones the first (by lanes, then rows)");
        String two = "lanes 2;rows 4;falls 0;lies 0 0 snow 5;wall 0 2 right;tips row = 0;room a lane 1 bears 1;";
        damDue(two, 0, 1, 1, 1);
        String back = "lanes 2;rows 4;falls 0;lies 1 0 snow 5;wall 1 2 left;tips row = 0;room a lane 0 bears 1;";
        damDue(back, 0, 3, 1, 1);
        CHECKS.sentence("==== 3: DAM: by which LEFT behind n is most");
        damDue(one + "room a lane 1 bears 1 rate 4;room b lane 0 bears 1 rate 3;room c lane 2 bears 1 rate 2;", 1, 1, 2, 7);
        damDue(one + "room a lane 1 bears 1 rate 4;room b lane 0 bears 1 rate 2;room c lane 2 bears 1 rate 3;", 1, 1, 1, 7);
        damDue(one + "room a lane 1 bears 1 rate 2;room b lane 0 bears 1 rate 2;room c lane 2 bears 1 rate 3;",
                -1, -1, -1, -1);
        damDue(one + "room a lane 1 bears 1 rate 3;room b lane 0 bears 1 rate 2;room c lane 2 bears 1 rate 3;", 1, 1, 1, 6);
    }

    private static void widestSlope() {
        CHECKS.sentence("==== 3: DAM, SHOVEL: every CELL of the greatest slope is tried, and none beyond it");
        String text = "lanes 6;rows 5;falls 0;lies 5 3 snow 5;tips 1;room a lane 5 bears 4;room b lane 5 bears 4;";
        damDue(text, 5, 4, 1, 2);
        AvalancheInn inn = CHECKS.inn(text);
        CHECKS.due("lane", inn.dig(1, 0), 5);
        CHECKS.due("row", inn.dig(1, 1), 3);
        CHECKS.due("LEFT", inn.dig(1, 2), 2);
        String lost = "lanes 6;rows 5;falls 9;lies 5 3 snow 5;lies 5 4 snow 5;tips 1;room a lane 5 bears 4;";
        damDue(lost, -1, -1, -1, -1);
        AvalancheInn all = CHECKS.inn(lost);
        CHECKS.due("lane", all.dig(1, 0), 0);
        CHECKS.due("row", all.dig(1, 1), 0);
        CHECKS.due("LEFT", all.dig(1, 2), 0);
        AvalancheInn last = CHECKS.inn("lanes 6;rows 5;falls 0;lies 5 4 snow 5;tips 1;room a lane 5 bears 4;");
        CHECKS.due("the last lane", last.dig(1, 0), 5);
        CHECKS.due("the last row", last.dig(1, 1), 4);
    }

    private static void brunts() {
        CHECKS.sentence("32: BRUNT (n 0 .. 60); NONE if one can't be; 33: NONE for another n");
        for (int n : NOT_FAR) {
            CHECKS.leaves("brunt(0, " + n + ")", x -> x.brunt(0, n), -1);
            CHECKS.leaves("gable(" + n + ")", x -> x.gable(n), -1);
        }
        for (int other : NO_LANE) {
            CHECKS.leaves("brunt(" + other + ", 5)", x -> x.brunt(other, 5), -1);
        }
        CHECKS.leaves("brunt(1, 0)", x -> x.brunt(1, 0), 0);
        CHECKS.leaves("brunt(1, 5)", x -> x.brunt(1, 5), 0);
        CHECKS.leaves("brunt(1, 6)", x -> x.brunt(1, 6), 16);
        CHECKS.leaves("brunt(1, 15)", x -> x.brunt(1, 15), 34);
        CHECKS.leaves("brunt(0, 20)", x -> x.brunt(0, 20), 0);
        CHECKS.leaves("brunt(0, 21)", x -> x.brunt(0, 21), 21);
        CHECKS.due("in the 60th", timer(59).brunt(0, 60), 5);
        CHECKS.due("not in 59", timer(59).brunt(0, 59), 0);
        CHECKS.due("not in 60", timer(60).brunt(0, 60), 0);
        AvalancheInn often = CHECKS.inn("lanes 6;rows 1;falls 9;tips 1;");
        CHECKS.due("60 times 9", often.brunt(5, 60), 540);
        CHECKS.due("brunt(6, 60)", often.brunt(6, 60), -1);
        AvalancheInn deep = CHECKS.inn("lanes 1;rows 5;falls 9;tips hour % 12 = 11 and row = 0;");
        CHECKS.due("five times 495", deep.brunt(0, 60), 2475);
        CHECKS.sentence("33: the lane of the least BRUNT in n (0 .. 60); of like ones the first");
        CHECKS.leaves("gable(0)", x -> x.gable(0), 0);
        CHECKS.leaves("gable(60)", x -> x.gable(60), 0);
        CHECKS.due("gable(59)", timer(59).gable(59), 0);
        CHECKS.due("gable(60)", timer(59).gable(60), 1);
        CHECKS.due("all alike", often.gable(60), 0);
        AvalancheInn last = CHECKS.inn("lanes 6;rows 1;falls 0;tips 1;lies 0 0 snow 4;lies 1 0 snow 3;lies 2 0 snow 2;"
                + "lies 3 0 snow 2;lies 4 0 snow 3;lies 5 0 snow 1;");
        CHECKS.due("the last lane", last.gable(1), 5);
        last.shovel(2, 0);
        last.shovel(4, 0);
        CHECKS.due("the first of two", last.gable(1), 2);
    }

    private static void digs() {
        CHECKS.sentence("34: SHOVEL (n 0 .. 24) what 0 .. 2; NONE if one can't be");
        for (int n : NOT_NEAR) {
            for (int what = 0; what < 3; what++) {
                int asked = what;
                CHECKS.leaves("dig(" + n + ", " + what + ")", x -> x.dig(n, asked), -1);
            }
        }
        for (int what : new int[] {-1, 3, 4, Integer.MIN_VALUE, Integer.MAX_VALUE}) {
            CHECKS.leaves("dig(24, " + what + ")", x -> x.dig(24, what), -1);
        }
        CHECKS.leaves("dig(20, 2)", x -> x.dig(20, 2), 1);
        CHECKS.leaves("dig(21, 2): it has no SNOW yet that will come", x -> x.dig(21, 2), 0);
        CHECKS.leaves("dig(24, 0)", x -> x.dig(24, 0), 0);
        CHECKS.leaves("dig(24, 1)", x -> x.dig(24, 1), 0);
        CHECKS.leaves("dig(0, 2)", x -> x.dig(0, 2), 1);
        AvalancheInn inn = CHECKS.inn("lanes 2;rows 2;falls 0;lies 1 1 snow 5;tips hour = 23;room a lane 1 bears 4 rate 6;");
        CHECKS.due("dig(23, 0)", inn.dig(23, 0), 0);
        CHECKS.due("dig(23, 1)", inn.dig(23, 1), 0);
        CHECKS.due("dig(23, 2)", inn.dig(23, 2), 6);
        CHECKS.due("dig(24, 0)", inn.dig(24, 0), 1);
        CHECKS.due("dig(24, 1)", inn.dig(24, 1), 1);
        CHECKS.due("dig(24, 2)", inn.dig(24, 2), 6);
        CHECKS.due("nothing is done", inn.cell(1, 1, 0), 5);
        CHECKS.due("no ACT", inn.about(9), 0);
        CHECKS.sentence("==== 3: SHOVEL: of like ones the first (by lanes, then rows)");
        AvalancheInn either = CHECKS.inn("lanes 3;rows 3;falls 0;lies 1 1 snow 5;lies 1 2 snow 5;wall 1 2 right;"
                + "lies 2 2 snow 3;tips row = 1;room a lane 2 bears 7;");
        CHECKS.due("lane", either.dig(1, 0), 1);
        CHECKS.due("row", either.dig(1, 1), 1);
        CHECKS.due("LEFT", either.dig(1, 2), 1);
        AvalancheInn lanes = CHECKS.inn("lanes 3;rows 3;falls 0;lies 2 1 snow 5;lies 1 2 snow 3;wall 2 2 left;"
                + "tips row = 1;room a lane 1 bears 7;");
        CHECKS.due("lane", lanes.dig(1, 0), 1);
        CHECKS.due("row", lanes.dig(1, 1), 2);
        CHECKS.sentence("==== 3: SHOVEL: by which LEFT is most");
        AvalancheInn most = CHECKS.inn("lanes 2;rows 1;falls 0;lies 0 0 snow 5;lies 1 0 snow 5;tips 1;"
                + "room a lane 0 bears 4 rate 2;room b lane 1 bears 4 rate 3;");
        CHECKS.due("lane", most.dig(1, 0), 1);
        CHECKS.due("LEFT", most.dig(1, 2), 3);
        CHECKS.due("no ROOMS", new AvalancheInn().dig(24, 2), 0);
        CHECKS.due("no ROOMS: the first", new AvalancheInn().dig(24, 0), 0);
    }

    private static void duels() {
        CHECKS.sentence("35: NONE if both are one, or one can't be (behind 0, NONE: nothing)");
        int[][] cannot = {{0, 0}, {1, 1}, {-1, 0}, {0, -1}, {2, 0}, {0, 2}, {2, 2}, {-1, -1}, {Integer.MIN_VALUE, 0},
            {0, Integer.MAX_VALUE}};
        for (int[] pair : cannot) {
            AvalancheInn inn = Checks.lived();
            CHECKS.due("duel(" + pair[0] + ", " + pair[1] + ")", inn.duel(pair[0], pair[1]), -1);
            CHECKS.due("nothing lies there", inn.about(15), 0);
            CHECKS.due("lies(0)", inn.lies(0), -2);
            AvalancheInn other = Checks.lived();
            other.places(-1);
            CHECKS.same("duel(" + pair[0] + ", " + pair[1] + ")", View.whole(inn), View.whole(other));
        }
        AvalancheInn inn = Checks.lived();
        CHECKS.due("duel(0, 1)", inn.duel(0, 1), 1);
        CHECKS.due("ann SINGS", inn.lies(0), 1);
        CHECKS.due("bob SINGS", inn.lies(1), 1);
        CHECKS.due("two lie there", inn.about(15), 2);
        CHECKS.due("nothing is done", inn.about(5), 2);
        CHECKS.due("no ACT", inn.about(9), 5);
        CHECKS.sentence("35: the first one's, the other one's");
        String text = "lanes 2;rows 1;falls 0;lies 0 0 snow 9;tips noise > 0;room a lane 0 bears 1;room b lane 1 bears 1;"
                + "guest p room a noise 9 from 0 to 47;guest q room b noise 9 from 0 to 47;";
        AvalancheInn order = CHECKS.inn(text);
        CHECKS.due("duel(0, 1)", order.duel(0, 1), 1);
        CHECKS.due("p is HUSHED", order.lies(0), 0);
        CHECKS.due("q SINGS", order.lies(1), 1);
        CHECKS.due("duel(1, 0)", order.duel(1, 0), 1);
        CHECKS.due("q SINGS", order.lies(0), 1);
        CHECKS.due("p is HUSHED", order.lies(1), 0);
    }

    /** p's room goes if it sings; q, who has 1, sings in any case. */
    private static void duelDue(String text, int noise, int rests, int sings) {
        AvalancheInn inn = CHECKS.inn("lanes 2;rows 1;falls 0;lies 0 0 snow 9;room a lane 0 bears 1;room b lane 1 bears 1;"
                + "guest p room a noise " + noise + " from 0 to 47;guest q room b noise 1 from 0 to 47;" + text);
        CHECKS.due(text + " RESTS with " + noise, inn.duel(0, 1), rests);
        CHECKS.due(text + " p with " + noise, inn.lies(0), sings);
        CHECKS.due(text + " q", inn.lies(1), 1);
    }

    private static void duelGains() {
        CHECKS.sentence("==== 3: DUEL: its noise if it SINGS, 25 less if its ROOM (that STANDS) is GONE");
        duelDue("tips noise > 9;", 10, 1, 0);
        duelDue("tips noise > 9;", 9, 1, 1);
        duelDue("tips noise > 9;", 24, 1, 0);
        duelDue("tips noise > 9;", 25, 2, 0);
        duelDue("tips noise > 9;", 26, 1, 1);
        duelDue("tips noise > 9;", 30, 1, 1);
        duelDue("tips 1;", 1, 1, 1);
        duelDue("tips 1;", 0, 2, 0);
        CHECKS.sentence("==== 3: DUEL: behind 6 HOURS");
        duelDue("tips noise > 9 and hour = 5;", 20, 1, 0);
        duelDue("tips noise > 9 and hour = 6;", 20, 1, 1);
        duelDue("tips noise > 9 and hour = 0;", 20, 1, 0);
        CHECKS.sentence("==== 3: DUEL: of like ones the least numbers");
        AvalancheInn mute = CHECKS.inn("room a lane 0 bears 9;guest p room a noise 0 from 0 to 47;"
                + "guest q room a noise 0 from 0 to 47;guest r room a noise 1 from 0 to 47;");
        CHECKS.due("all rest", mute.duel(0, 1), 4);
        CHECKS.due("0, 0", mute.lies(0) * 2 + mute.lies(1), 0);
        CHECKS.due("r SINGS", mute.duel(0, 2), 2);
        CHECKS.due("0, 1", mute.lies(0) * 2 + mute.lies(1), 1);
        CHECKS.due("r SINGS", mute.duel(2, 0), 2);
        CHECKS.due("1, 0", mute.lies(0) * 2 + mute.lies(1), 2);
        // p's room goes in any case: to sing is better than not, whatever mute q does
        AvalancheInn anyway = CHECKS.inn("lanes 2;rows 1;falls 0;lies 0 0 snow 9;tips 1;room a lane 0 bears 1;"
                + "room b lane 1 bears 1;guest p room a noise 1 from 0 to 47;guest q room b noise 0 from 0 to 47;");
        CHECKS.due("p SINGS", anyway.duel(0, 1), 2);
        CHECKS.due("1, 0", anyway.lies(0) * 2 + anyway.lies(1), 2);
        CHECKS.sentence("35: behind 0: nothing");
        // one alone brings 9 down, by which p's room goes, both bring 14, by which both go: by turns each has more
        // by the other way
        AvalancheInn none = CHECKS.inn("lanes 2;rows 2;falls 0;lies 0 0 snow 5;lies 0 1 snow 9;room a lane 0 bears 1;"
                + "room b lane 0 bears 12;guest p room a noise 15 from 0 to 1;guest q room b noise 14 from 0 to 7;");
        none.places(0);
        CHECKS.due("two lie there", none.about(15), 2);
        CHECKS.due("no RESTS", none.duel(0, 1), 0);
        CHECKS.due("nothing lies there", none.about(15), 0);
        CHECKS.due("lies(0)", none.lies(0), -2);
        CHECKS.sentence("==== 3: DUEL: a third GUEST is as it is");
        AvalancheInn three = CHECKS.inn("lanes 1;rows 1;falls 0;lies 0 0 snow 9;tips noise > 20;room a lane 0 bears 1;"
                + "guest p room a noise 9 from 0 to 47;guest q room a noise 10 from 0 to 47;"
                + "guest r room a noise 5 from 0 to 47;");
        CHECKS.due("one of two", three.duel(0, 1), 2);
        CHECKS.due("0, 1", three.lies(0) * 2 + three.lies(1), 1);
        three.hush(2);
        CHECKS.due("both", three.duel(0, 1), 1);
        CHECKS.due("1, 1", three.lies(0) * 2 + three.lies(1), 3);
    }

    private static void fears() {
        CHECKS.sentence("36: the CELL of which the TRACK brings most; of like ones the first; NONE for another what");
        for (int what : new int[] {-1, 2, 3, Integer.MIN_VALUE, Integer.MAX_VALUE}) {
            CHECKS.leaves("fear(" + what + ")", x -> x.fear(what), -1);
        }
        CHECKS.leaves("fear(0)", x -> x.fear(0), 1);
        CHECKS.leaves("fear(1)", x -> x.fear(1), 0);
        CHECKS.due("no SNOW", new AvalancheInn().fear(0) + new AvalancheInn().fear(1), 0);
        AvalancheInn last = CHECKS.inn("lanes 6;rows 5;lies 5 4 snow 1;wall 5 4 left;");
        CHECKS.due("lane", last.fear(0), 5);
        CHECKS.due("row", last.fear(1), 4);
        AvalancheInn like = CHECKS.inn("lanes 3;rows 3;lies 1 2 snow 5;lies 2 0 snow 5;");
        CHECKS.due("lane", like.fear(0), 1);
        CHECKS.due("row: all above bring as much", like.fear(1), 0);
        AvalancheInn one = CHECKS.inn("lanes 3;rows 3;lies 1 2 snow 5;lies 2 0 snow 6;");
        CHECKS.due("one more", one.fear(0), 2);
        AvalancheInn shared = CHECKS.inn("lanes 2;rows 2;lies 0 1 snow 5;lies 1 0 snow 3;wall 1 1 left;");
        CHECKS.due("both would take the same along", shared.fear(0) * 10 + shared.fear(1), 10);
        AvalancheInn aside = CHECKS.inn("lanes 1;rows 3;lies 0 0 snow 30;lies 0 1 snow 30;lies 0 2 snow 1;wall 0 2 left;");
        CHECKS.due("aside brings nothing", aside.fear(1), 2);
    }

    private static void bornes() {
        CHECKS.sentence("37: the greatest SHOUT (0 .. 99) by which no ROOM is GONE; NONE if by none, or none such");
        for (int other : NO_LANE) {
            CHECKS.leaves("borne(" + other + ")", x -> x.borne(other), -1);
        }
        CHECKS.leaves("borne(0)", x -> x.borne(0), 99);
        CHECKS.leaves("borne(1): no ROOM is there", x -> x.borne(1), 99);
        String text = "lanes 2;rows 1;falls 0;lies 0 0 snow 5;lies 1 0 snow 5;"
                + "room a lane 0 bears 4;room b lane 1 bears 5;tips ";
        CHECKS.due("by none", CHECKS.inn(text + "1;").borne(0), -1);
        CHECKS.due("borne: 5 come", CHECKS.inn(text + "1;").borne(1), 99);
        CHECKS.due("0", CHECKS.inn(text + "noise > 0;").borne(0), 0);
        CHECKS.due("1", CHECKS.inn(text + "noise > 1;").borne(0), 1);
        CHECKS.due("98", CHECKS.inn(text + "noise > 98;").borne(0), 98);
        CHECKS.due("99", CHECKS.inn(text + "noise > 99;").borne(0), 99);
        CHECKS.due("0 alone", CHECKS.inn(text + "not noise = 0;").borne(0), 0);
        CHECKS.due("50 alone", CHECKS.inn(text + "not noise = 50;").borne(0), 50);
        CHECKS.due("not at 99", CHECKS.inn(text + "noise = 99;").borne(0), 98);
        CHECKS.due("at 99", CHECKS.inn(text + "noise < 99;").borne(0), 99);
        AvalancheInn gone = CHECKS.inn(text + "noise > 7;");
        CHECKS.due("7", gone.borne(0), 7);
        gone.shout(0, 8);
        gone.build(0);
        CHECKS.due("no SNOW any more", gone.borne(0), 99);
        CHECKS.sentence("37: by it: a ROOM that is GONE already counts not");
        AvalancheInn already = CHECKS.inn("lanes 1;rows 2;falls 0;lies 0 0 snow 2;lies 0 1 snow 5;tips row = 1 and hour = 0 "
                + "or noise > 30;room a lane 0 bears 4;");
        CHECKS.due("a goes", already.hour(), 1);
        CHECKS.due("borne(0)", already.borne(0), 99);
        already.build(0);
        CHECKS.due("2 come", already.borne(0), 99);
    }

    private static void poors() {
        CHECKS.sentence("38: soonest in 60 HOURS (GONE now: behind 0); of like ones the first; NONE if none is");
        CHECKS.leaves("poor()", AvalancheInn::poor, 0);
        CHECKS.due("in the 60th", timer(59).poor(), 0);
        CHECKS.due("in the 61st", timer(60).poor(), -1);
        CHECKS.due("no ROOMS", new AvalancheInn().poor(), -1);
        String two = "lanes 2;rows 1;falls 0;lies 0 0 snow 5;lies 1 0 snow 6;room a lane 0 bears 4;room b lane 1 bears 4;";
        CHECKS.due("of like ones the first", CHECKS.inn(two + "tips hour = 3;").poor(), 0);
        CHECKS.due("b is sooner", CHECKS.inn(two + "tips hour + snow > 9;").poor(), 1);
        CHECKS.due("a is sooner", CHECKS.inn(two + "tips hour - snow > 3;").poor(), 0);
        AvalancheInn now = CHECKS.inn(two + "tips snow = 6;");
        now.hour();
        CHECKS.due("b is GONE now", now.poor(), 1);
        AvalancheInn both = CHECKS.inn(two + "tips snow = 6 and hour = 0 or hour = 1;");
        both.hour();
        CHECKS.due("b is GONE now, a in the next", both.poor(), 1);
    }

    private static void awakes() {
        CHECKS.sentence("39: at an hour (0 .. 47), as bits; NONE for another hour");
        for (int hour : new int[] {-1, 48, 49, Integer.MIN_VALUE, Integer.MAX_VALUE}) {
            CHECKS.leaves("awake(" + hour + ")", x -> x.awake(hour), -1);
        }
        CHECKS.leaves("awake(2): bob is HUSHED, ann's ROOM is GONE", x -> x.awake(2), 0);
        StringBuilder text = new StringBuilder("lanes 1;rows 1;falls 0;lies 0 0 snow 1;room a lane 0 bears 9;"
                + "room b lane 0 bears 0;tips hour = 60;");
        int[] froms = {0, 0, 47, 5, 10, 0};
        int[] tos = {0, 47, 47, 5, 20, 46};
        for (int i = 0; i < 6; i++) {
            text.append("guest ").append((char) ('a' + i)).append(i == 5 ? " room b" : " room a").append(" noise 1 from ");
            text.append(froms[i]).append(" to ").append(tos[i]).append(';');
        }
        AvalancheInn inn = CHECKS.inn(text.toString());
        for (int hour = 0; hour < 48; hour++) {
            int want = 0;
            for (int i = 0; i < 6; i++) {
                want |= froms[i] <= hour && hour <= tos[i] ? 1 << i : 0;
            }
            CHECKS.due("awake(" + hour + ")", inn.awake(hour), want);
        }
        inn.hush(1);
        CHECKS.due("awake(47)", inn.awake(47), 4);
        CHECKS.due("awake(46)", inn.awake(46), 32);
        for (int i = 0; i < 61; i++) {
            inn.hour();
        }
        CHECKS.due("b is GONE", inn.about(4), 2);
        CHECKS.due("awake(46)", inn.awake(46), 0);
        CHECKS.due("awake(0)", inn.awake(0), 1);
        CHECKS.due("awake(48)", inn.awake(48), -1);
    }

    private static void laws() {
        CHECKS.sentence("41: LEFT behind 24 HOURS, if falls told n (0 .. 9); NONE for another n");
        for (int n : new int[] {-1, 10, 11, Integer.MIN_VALUE, Integer.MAX_VALUE}) {
            CHECKS.leaves("law(" + n + ")", x -> x.law(n), -1);
        }
        CHECKS.leaves("law(0)", x -> x.law(0), 1);
        CHECKS.leaves("law(1)", x -> x.law(1), 0);
        String text = "lanes 1;rows 1;falls 0;room a lane 0 bears 4 rate 3;tips hour = ";
        CHECKS.due("in the 24th", CHECKS.inn(text + "23;").law(1), 0);
        CHECKS.due("in the 25th", CHECKS.inn(text + "24;").law(1), 3);
        AvalancheInn inn = CHECKS.inn("lanes 1;rows 1;falls 5;tips hour = 23;room a lane 0 bears 23;"
                + "room b lane 0 bears 24 rate 2;room c lane 0 bears 47 rate 4;room d lane 0 bears 48 rate 8;"
                + "room e lane 0 bears 99 rate 16;");
        CHECKS.due("law(0)", inn.law(0), 31);
        CHECKS.due("law(1): 24", inn.law(1), 30);
        CHECKS.due("law(2): 48", inn.law(2), 24);
        CHECKS.due("law(9): 99", inn.law(9), 16);
        CHECKS.due("falls stay", inn.about(16), 5);
        CHECKS.due("SNOW stays", inn.heap(0), 0);
    }

    private static void odds() {
        CHECKS.sentence("42: ODDS (n 0 .. 4), upper (0), lower (1), in lowest terms (0 of 1); NONE if one can't be");
        for (int other : new int[] {-1, 5, 6, Integer.MIN_VALUE, Integer.MAX_VALUE}) {
            CHECKS.leaves("odds(" + other + ", 0)", x -> x.odds(other, 0), -1);
            CHECKS.leaves("odds(" + other + ", 1)", x -> x.odds(other, 1), -1);
        }
        for (int part : new int[] {-1, 2, 3, Integer.MIN_VALUE, Integer.MAX_VALUE}) {
            CHECKS.leaves("odds(1, " + part + ")", x -> x.odds(1, part), -1);
        }
        CHECKS.leaves("odds(2, 0)", x -> x.odds(2, 0), 49);
        CHECKS.leaves("odds(2, 1)", x -> x.odds(2, 1), 100);
        for (int wind = 0; wind <= 100; wind++) {
            AvalancheInn inn = CHECKS.inn("wind " + wind + ";draw " + wind * 7 + ";");
            for (int n = 0; n <= 4; n++) {
                BigInteger upper = BigInteger.valueOf(100 - wind).pow(n);
                BigInteger lower = BigInteger.valueOf(100).pow(n);
                BigInteger shared = upper.gcd(lower);
                CHECKS.due("odds(" + n + ", 0) of " + wind, inn.odds(n, 0), upper.divide(shared).longValueExact());
                CHECKS.due("odds(" + n + ", 1) of " + wind, inn.odds(n, 1), lower.divide(shared).longValueExact());
            }
        }
        AvalancheInn all = CHECKS.inn("wind 100;");
        CHECKS.due("0", all.odds(4, 0), 0);
        CHECKS.due("of 1", all.odds(4, 1), 1);
        CHECKS.due("no HOURS: 1", all.odds(0, 0), 1);
        CHECKS.due("of 1", all.odds(0, 1), 1);
    }

    private static void whatLies() {
        CHECKS.sentence("43: the i-th number of what lies there; -2 if there is none such");
        for (int i : new int[] {-1, 2, 3, Integer.MIN_VALUE, Integer.MAX_VALUE}) {
            CHECKS.leaves("lies(" + i + ")", x -> x.lies(i), -2);
        }
        CHECKS.leaves("lies(0)", x -> x.lies(0), 0);
        CHECKS.leaves("lies(1)", x -> x.lies(1), 0);
        CHECKS.due("nothing at first", new AvalancheInn().lies(0), -2);
        AvalancheInn none = new AvalancheInn();
        none.places(0);
        CHECKS.due("no ROOMS", none.lies(0), -2);
        CHECKS.due("no ROOMS", none.about(15), 0);
        AvalancheInn inn = CHECKS.inn("lanes 1;rows 1;falls 0;room a lane 0 bears 1;room b lane 0 bears 1;"
                + "room c lane 0 bears 1;guest p room a noise 1 from 0 to 0;guest q room a noise 1 from 0 to 0;");
        inn.places(0);
        CHECKS.due("three", inn.about(15), 3);
        inn.duel(0, 1);
        CHECKS.due("two", inn.about(15), 2);
        CHECKS.due("lies(2)", inn.lies(2), -2);
        inn.hour();
        inn.undo();
        inn.image(0);
        inn.back(0);
        inn.dam(1, 1);
        inn.quiet(1, 1);
        inn.dig(1, 1);
        CHECKS.due("it lies there on", inn.about(15), 2);
        CHECKS.due("lies(0)", inn.lies(0), 1);
    }

    private static void byWhatIsNow() {
        CHECKS.sentence("==== 3: by what is now; nothing is done");
        AvalancheInn inn = CHECKS.inn("lanes 2;rows 1;falls 0;lies 0 0 snow 5;tips hour = 30;room a lane 0 bears 4;");
        for (int i = 0; i < 10; i++) {
            inn.hour();
        }
        CHECKS.due("when(0)", inn.when(0), 21);
        CHECKS.due("next()", inn.next(), 21);
        CHECKS.due("first(0)", inn.first(0), 21);
        CHECKS.due("will(20, 0)", inn.will(20, 0), 0);
        CHECKS.due("will(21, 0)", inn.will(21, 0), 1);
        CHECKS.due("places(20)", inn.places(20) * 10 + inn.lies(0), 10);
        CHECKS.due("places(21)", inn.places(21) * 10 + inn.lies(0), 11);
        CHECKS.due("dig(21, 2)", inn.dig(21, 2), 1);
        CHECKS.due("law(0)", inn.law(0), 0);
        inn.wall(0, 0, 1);
        inn.shovel(0, 0);
        CHECKS.due("shovelled", inn.when(0), -1);
        inn.undo();
        CHECKS.due("undone", inn.when(0), 21);
        inn.move(0, 1);
        CHECKS.due("moved", inn.when(0), -1);
    }

    private static void noWind() {
        CHECKS.sentence("==== 3: no wind, if not told otherwise");
        // with wind 3 lie there in the first hour, and the room goes
        AvalancheInn inn = CHECKS.inn("lanes 1;rows 1;falls 0;wind 100;tips snow > 2 and noise < 99;room a lane 0 bears 2;"
                + "guest p room a noise 5 from 0 to 47;guest q room a noise 6 from 0 to 47;");
        CHECKS.due("will(60, 1)", inn.will(60, 1), 1);
        CHECKS.due("will(60, 0)", inn.will(60, 0), 0);
        CHECKS.due("depth(0, 0, 60)", inn.depth(0, 0, 60), 0);
        CHECKS.due("left(60)", inn.left(60), 1);
        CHECKS.due("purse(60)", inn.purse(60), 60);
        CHECKS.due("when(0)", inn.when(0), -1);
        CHECKS.due("next()", inn.next(), -1);
        CHECKS.due("first(0)", inn.first(0), -1);
        CHECKS.due("places(24)", inn.places(24), 1);
        CHECKS.due("quiet(24, 0)", inn.quiet(24, 0), 0);
        CHECKS.due("dam(24, 0)", inn.dam(24, 0), -1);
        CHECKS.due("brunt(0, 60)", inn.brunt(0, 60), 0);
        CHECKS.due("dig(24, 2)", inn.dig(24, 2), 1);
        CHECKS.due("duel(0, 1)", inn.duel(0, 1), 1);
        CHECKS.due("both SING", inn.lies(0) + inn.lies(1), 2);
        CHECKS.due("poor()", inn.poor(), -1);
        CHECKS.due("law(0)", inn.law(0), 1);
        CHECKS.due("hour()", inn.hour(), 1);
    }
}
