/**
 * All that can be seen of an object but its status, written down. The calls use the object up: two objects
 * that were made alike are told apart by their portraits, if by anything.
 */
final class Portrait {
    private final DreamGraves x;
    private final StringBuilder seen = new StringBuilder();

    private Portrait(DreamGraves x) {
        this.x = x;
    }

    /** The tape must hold a law of one grave, or nothing that a sleeper behind it makes a yard. */
    static String of(DreamGraves x) {
        Portrait p = new Portrait(x);
        p.counts();
        p.sleepers();
        p.foretold();
        p.past();
        p.images();
        p.tape();
        p.rows();
        return p.seen.toString();
    }

    private void note(String what, long answer) {
        seen.append(what).append('=').append(answer).append(' ');
    }

    private void counts() {
        for (int what = 0; what <= 7; what++) {
            note("count" + what, x.count(what));
        }
        note("fault", x.fault());
        for (int i = 0; i <= 6; i++) {
            note("trace" + i, x.trace(i));
        }
    }

    private void sleepers() {
        for (int s = 0; s < 4; s++) {
            note("kind" + s, x.kind(s));
            for (int what = 0; what <= 3; what++) {
                note("sleeper" + s + what, x.sleeper(s, what));
            }
            for (int g = 0; g < 3; g++) {
                note("memory" + s + g, x.memory(s, g));
            }
        }
        for (int g = 0; g < 3; g++) {
            note("grave" + g, x.grave(g, 0));
            note("dreamt" + g, x.grave(g, 1));
        }
    }

    private void foretold() {
        note("ahead1", x.ahead(1));
        note("ahead3", x.ahead(3));
        note("cheese", x.cheese(5));
        note("forgets", x.forgets(0, 0));
        note("drawn", x.drawn(3, 7, 1));
    }

    private void past() {
        for (int i = 0; i < 25; i++) {
            note("undo", x.undo());
            note("year", x.count(3));
            note("kept", x.count(4));
            note("suppers", x.count(5));
            note("memory", x.sleeper(0, 1));
        }
    }

    private void images() {
        for (int k = 0; k < 2; k++) {
            note("restore" + k, x.restore(k));
            note("year", x.count(3));
            note("kept", x.count(4));
            note("suppers", x.count(5));
            note("memory", x.sleeper(0, 1));
        }
    }

    private void tape() {
        note("feed", x.feed('s'));
        note("feed", x.feed('0'));
        note("feed", x.feed(';'));
        note("yard", x.yard());
        note("fault", x.fault());
        note("graves", x.count(1));
    }

    private void rows() {
        Dues.fed(x, "g1,1,2;s0;");
        x.yard();
        for (int r = 0; r < 8; r++) {
            for (int i = 0; i < 3; i++) {
                note("item" + r + i, x.who(0, r, i, 1));
            }
            note("lane" + r, x.set(r, 0, 70000));
            note("size" + r, x.drop(r));
        }
    }
}
