/** All that can be seen of an inn, as a text; two inns with the same view go on alike. */
final class View {
    private final AvalancheInn inn;
    private final StringBuilder text = new StringBuilder();
    private final int rooms;
    private final int guests;
    private final int lanes;
    private final int rows;

    private View(AvalancheInn inn) {
        this.inn = inn;
        rooms = inn.about(0);
        guests = inn.about(1);
        lanes = inn.about(2);
        rows = inn.about(3);
    }

    /** Looks at all, at last by calls that change it: the inn is not to be used any more. */
    static String whole(AvalancheInn inn) {
        View view = new View(inn);
        view.lookAtNow();
        view.lookAtSeen();
        view.lookAtActs();
        view.lookAtBoxes();
        view.lookAtTape();
        return view.text.toString();
    }

    /** Looks at what acts change, and changes nothing. */
    static String brief(AvalancheInn inn) {
        View view = new View(inn);
        view.lookAtState();
        return view.text.toString();
    }

    private void put(String name, long number) {
        text.append(name).append('=').append(number).append(' ');
    }

    private void lookAtNow() {
        for (int what = 0; what <= 17; what++) {
            put("about" + what, inn.about(what));
        }
        int lying = inn.about(15);
        for (int i = 0; i <= lying; i++) {
            put("lies" + i, inn.lies(i));
        }
        for (int row = 0; row < rows; row++) {
            put("steep" + row, inn.cell(0, row, 2));
        }
        for (int room = 0; room < rooms; room++) {
            put("bears", inn.room(room, 1));
            put("rate", inn.room(room, 2));
        }
        for (int guest = 0; guest < guests; guest++) {
            for (int what = 0; what < 4; what++) {
                put("guest" + guest, inn.guest(guest, what));
            }
        }
        lookAtState();
        put("next", inn.next());
        put("will", inn.will(30, 1));
    }

    private void lookAtState() {
        for (int what = 4; what <= 8; what++) {
            put("about" + what, inn.about(what));
        }
        for (int lane = 0; lane < lanes; lane++) {
            for (int row = 0; row < rows; row++) {
                put("snow", inn.cell(lane, row, 0));
                put("wall", inn.cell(lane, row, 1));
            }
        }
        for (int room = 0; room < rooms; room++) {
            put("lane", inn.room(room, 0));
        }
    }

    private void lookAtSeen() {
        int time = inn.about(12);
        for (int known = time - 1; known <= time; known++) {
            put("fits", inn.fits(known));
            put("least", inn.sure(0, known));
            put("greatest", inn.sure(1, known));
        }
    }

    private void lookAtActs() {
        for (int i = 0; i < 2 && inn.undo(); i++) {
            text.append("\nundone ");
            lookAtState();
        }
        for (int i = 0; i < 4 && inn.redo(); i++) {
            text.append("\nredone ");
            lookAtState();
        }
    }

    private void lookAtBoxes() {
        for (int box = 0; box < 3; box++) {
            text.append("\nbox ");
            put("back", inn.back(box));
            lookAtState();
        }
    }

    private void lookAtTape() {
        text.append("\ntape ");
        put("pass", inn.pass());
        put("fault", inn.fault(0));
        put("place", inn.fault(1));
        for (int what = 0; what <= 17; what++) {
            put("about" + what, inn.about(what));
        }
    }
}
