import java.util.function.Supplier;
import java.util.function.ToIntFunction;

/** Holds answers against what is due, each under the sentence of the document that asks for it. */
final class Checks {
    /** Two lanes, two rows; the gable bears little; what comes down lane 0 from the top goes aside. */
    static final String INN = "lanes 2;rows 2;slope 0 steep 5;slope 1 steep 2;lies 0 0 snow 6;lies 0 1 snow 3;"
            + "lies 1 0 snow 2;wall 0 1 left;room gable lane 0 bears 2 rate 4;room bar lane 1 bears 20;"
            + "guest ann room gable noise 8 from 0 to 5;guest bob room bar noise 30 from 2 to 3;falls 1;wind 30;draw 7;"
            + "tips snow * steep + noise > 40;";

    private String sentence = "";
    private int checked;
    private int wrong;

    void sentence(String words) {
        sentence = words;
    }

    void due(String call, long got, long want) {
        checked++;
        if (got != want) {
            tellWrong(call + " answered " + got + ", due is " + want);
        }
    }

    void due(String call, boolean got, boolean want) {
        due(call, got ? 1 : 0, want ? 1 : 0);
    }

    void same(String call, String got, String want) {
        checked++;
        if (!got.equals(want)) {
            tellWrong(call + " leaves\n" + got + "\ndue is\n" + want);
        }
    }

    private void tellWrong(String what) {
        wrong++;
        System.out.println("[" + sentence + "] " + what);
    }

    /** A new inn of a text without a fault. */
    AvalancheInn inn(String text) {
        AvalancheInn inn = new AvalancheInn();
        if (Texts.tell(inn, text) < 0) {
            tellWrong("fault " + inn.fault(0) + " at " + inn.fault(1) + " in: " + text);
        }
        return inn;
    }

    /** An inn of which all that can be kept is kept: acts to undo and redo, boxes, what is seen, what lies there. */
    static AvalancheInn lived() {
        AvalancheInn inn = new AvalancheInn();
        Texts.tell(inn, INN);
        inn.later(4);
        inn.seen(1, 1, true);
        inn.seen(2, 1, false);
        inn.later(1);
        inn.untell(1);
        inn.image(0);
        inn.hour();
        inn.hush(1);
        inn.shout(0, 99);
        inn.image(2);
        inn.wall(0, 0, 2);
        inn.move(1, 0);
        inn.shovel(1, 0);
        inn.hour();
        inn.undo();
        inn.undo();
        inn.places(3);
        Texts.lay(inn, "falls 3;room attic lane 2 bears 7;");
        return inn;
    }

    /** The text has this fault, and all stays. */
    void fault(String text, int kind, int place) {
        AvalancheInn inn = lived();
        due("pass() of " + text, Texts.tell(inn, text), -1);
        due("fault(0) of " + text, inn.fault(0), kind);
        due("fault(1) of " + text, inn.fault(1), place);
        AvalancheInn other = lived();
        Texts.lay(other, text);
        same("pass() of " + text, View.whole(inn), View.whole(other));
    }

    /** The text has no fault. */
    AvalancheInn fine(String text) {
        AvalancheInn inn = new AvalancheInn();
        inn.feed(0, 0, 0, 0, 0);
        inn.pass();
        Texts.tell(inn, text);
        due("fault(0) of " + text, inn.fault(0), 0);
        due("fault(1) of " + text, inn.fault(1), -1);
        due("about(13) behind " + text, inn.about(13), 0);
        return inn;
    }

    /** The call answers so and leaves all as it was. */
    void leaves(String name, Supplier<AvalancheInn> made, ToIntFunction<AvalancheInn> call, int answer) {
        AvalancheInn inn = made.get();
        due(name, call.applyAsInt(inn), answer);
        same(name, View.whole(inn), View.whole(made.get()));
    }

    /** The call of an inn that has lived answers so and leaves all as it was. */
    void leaves(String name, ToIntFunction<AvalancheInn> call, int answer) {
        leaves(name, Checks::lived, call, answer);
    }

    void finish() {
        System.out.println(checked + " answers checked, " + wrong + " not as due");
        if (wrong != 0) {
            System.exit(1);
        }
    }
}
