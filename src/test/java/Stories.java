/**
 * A fixed row of calls that brings to light all that a room holds, also what no answer tells at once: the gate, which
 * guns are lent, what is drawn next, which plots are on their way. Two rooms that are alike have the same story.
 */
final class Stories {
    private interface Ask {
        Object answer();
    }

    private final Plotroom room;
    private final StringBuilder text = new StringBuilder();

    private Stories(Plotroom room) {
        this.room = room;
    }

    static String of(Plotroom room) {
        Stories story = new Stories(room);
        story.look();
        story.tellMore();
        story.goOn();
        return story.text.toString();
    }

    private void add(Ask ask) {
        try {
            text.append(ask.answer());
        } catch (RuntimeException e) {
            text.append(e.getClass().getSimpleName());
        }
        text.append(' ');
    }

    /** What the digest leaves out. */
    private void look() {
        add(() -> room.digest());
        for (int i = 0; i < 12; i++) {
            int flight = i;
            for (int what : new int[] {2, 3, 4, 7}) {
                add(() -> room.ofFlight(flight, what));
            }
        }
        for (int i = 0; i < 5; i++) {
            int mast = i;
            for (int k = 0; k < 6; k++) {
                int what = k;
                add(() -> room.ofMast(mast, what));
            }
        }
        for (int i = 0; i < 8; i++) {
            int squadron = i;
            add(() -> room.ofSquadron(squadron, 0));
            add(() -> room.meet(squadron, 0));
        }
        for (int i = 0; i < 10; i++) {
            int row = i;
            add(() -> room.table(row));
        }
    }

    private void tellMore() {
        add(() -> room.gate(12));
        add(() -> room.flight(true, 90, 90, 1, 1, 9, 33));
        add(() -> room.mast(100, 100, 70, 0, 4, 1));
        add(() -> room.station(80, 80));
        add(() -> room.squadron(0, 5, 9, 40, 2));
        add(() -> room.town(100, 100, 50));
        add(() -> room.plan(0, 9, 90, 90, 9));
        add(() -> room.call());
        add(() -> room.gun(90, 90, 9));
        for (int i = 5; i >= 0; i--) {
            int gun = i;
            add(() -> room.lend(gun, false));
        }
    }

    private void goOn() {
        for (int i = 0; i < 8; i++) {
            int squadron = i;
            add(() -> room.scramble(squadron, 0));
        }
        for (int minutes : new int[] {1, 2, 5, 14}) {
            add(() -> room.pass(minutes));
            add(() -> room.digest());
        }
    }
}
