/** All that can be asked of a small desk, in one text: two desks that have lived alike have the same one. */
final class Prints {
    private static final int MOST_LAYERS = 4;

    private final ShellHeap desk;
    private final int layers;
    private final StringBuilder text = new StringBuilder();

    private Prints(ShellHeap desk) {
        this.desk = desk;
        layers = Math.min(desk.count(1), MOST_LAYERS);
    }

    /** Asks some 300 calls at most; the last ones write, so that the desk is of no more use behind it. */
    static String of(ShellHeap desk) {
        Prints print = new Prints(desk);
        print.counts();
        print.book();
        print.heap();
        print.shells();
        print.seasons();
        print.causes();
        print.tape();
        print.whatComesNext();
        return print.text.toString();
    }

    private void put(String what, long answer) {
        text.append(what).append(' ').append(answer).append('\n');
    }

    private void counts() {
        for (int what = 0; what <= 7; what++) {
            put("count " + what, desk.count(what));
        }
        put("fault", desk.fault(0));
        put("its place", desk.fault(1));
    }

    private void book() {
        int n = desk.count(2);
        for (int i = 0; i <= n; i++) {
            put("quarrel by " + i, desk.quarrel(i));
        }
        for (int layer = 0; layer < layers; layer++) {
            for (int what = 0; what <= 4; what++) {
                put("bed of " + layer + ", " + what, desk.bed(n, layer, what));
            }
            put("order of " + layer, desk.order(n, layer, 0));
        }
    }

    private void heap() {
        for (int layer = 0; layer < layers; layer++) {
            for (int what = 0; what <= 2; what++) {
                put("holds of " + layer + ", " + what, desk.holds(layer, what));
            }
        }
    }

    private void shells() {
        for (int layer = 0; layer < layers; layer++) {
            for (int what = 0; what <= 3; what++) {
                put("eaten of " + layer + ", 0, " + what, desk.eaten(layer, 0, what));
                put("middle of " + layer + ", " + what, desk.middle(layer, what));
            }
            put("eaten of " + layer + ", 1", desk.eaten(layer, 1, 1));
        }
    }

    private void seasons() {
        for (int layer = 0; layer < layers; layer++) {
            for (int reader = 0; reader <= 2; reader++) {
                for (int what = 0; what <= 5; what++) {
                    put("season of " + layer + ", " + reader + ", " + what, desk.season(layer, reader, what));
                }
            }
        }
    }

    private void causes() {
        for (int layer = 0; layer < layers; layer++) {
            put("cause 0 of " + layer, desk.cause(0, layer));
            put("cause 1 of " + layer, desk.cause(1, layer));
            put("why of " + layer, desk.why(layer));
        }
    }

    private void tape() {
        int fed = desk.feed(0x20202020, 0x20202020, 0x20202020, 0x20202020, 0x20202020);
        put("fed", fed);
        put("the tape as rules", desk.rules(Math.max(fed, 0)));
        put("its fault", desk.fault(0));
        put("its place", desk.fault(1));
        put("its first cause", desk.cause(0, 0));
        put("its second cause", desk.cause(1, 0));
    }

    private void whatComesNext() {
        put("the next layer", desk.layer());
        put("the next note", desk.note(0, 1, 0, 0));
        put("the next strike", desk.strike(0));
        put("beyond the heap's width", desk.column(5, 0));
        put("beyond the heap's height", desk.column(0, 4));
        put("the next column", desk.column(4, 3));
        put("the next kind", desk.kind(1, 1));
        put("the next shell", desk.measure(0, 1, 1, 1));
        put("the next readings", desk.readings(0, 0, 1, 0, 0, 0));
    }
}
