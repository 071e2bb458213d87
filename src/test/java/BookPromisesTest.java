import java.util.NoSuchElementException;

/** Promises 1, 6 to 11 and 28, with answers worked out by hand from the document. */
final class BookPromisesTest {
    private static final int MIN = Integer.MIN_VALUE;
    private static final int MAX = Integer.MAX_VALUE;

    private final Checks checks = new Checks();

    public static void main(String[] args) {
        BookPromisesTest test = new BookPromisesTest();
        test.newObject();
        test.layers();
        test.notes();
        test.strikes();
        test.beds();
        test.ranks();
        test.spans();
        test.orders();
        test.quarrels();
        test.rings();
        test.counts();
        test.checks.end();
    }

    private void newObject() {
        ShellHeap x = new ShellHeap();
        for (int what = 0; what <= 7; what++) {
            checks.due("1: count(" + what + ") of a new object", x.count(what), 0);
        }
        checks.due("1: no fault yet", x.fault(0), 0);
        checks.due("1: no place yet", x.fault(1), ShellHeap.NONE);
        checks.due("1: an empty tape", x.rules(1), -2);
        checks.due("1: no quarrel", x.quarrel(0), 0);
        checks.due("1: the first heap is 6 by 6", x.column(5, 5), 0);
        checks.due("1: and no wider", x.column(6, 0), -1);
        checks.due("1: and no higher", x.column(0, 6), -1);
        checks.due("1: NONE", ShellHeap.NONE, -1);
    }

    private void layers() {
        ShellHeap x = new ShellHeap();
        for (int i = 0; i < 12; i++) {
            checks.due("6: layer()", x.layer(), i);
        }
        checks.due("6: a thirteenth", x.layer(), -1);
        checks.due("6: twelve stay", x.count(1), 12);
    }

    private void notes() {
        ShellHeap x = Desks.withLayers(3);
        checks.due("7: sort 0", x.note(0, 2, 0, MIN), 0);
        checks.due("7: sort 1", x.note(1, 1, 0, MAX), 1);
        checks.due("7: sort 2", x.note(2, 1, 2, -1), 2);
        checks.due("7: sort 3", x.note(3, 1, 0, 9999), 3);
        checks.due("7: a date of one year", x.note(3, 1, 7, 7), 4);
        checks.due("7: sort 4", x.note(4, 0, 1, 0), -1);
        checks.due("7: sort 5", x.note(5, 0, 1, 0), -1);
        checks.due("7: sort -1", x.note(-1, 0, 1, 0), -1);
        for (int sort = 0; sort < 3; sort++) {
            checks.due("7: unlike layers", x.note(sort, 1, 1, 0), -1);
            checks.due("7: no such a", x.note(sort, 3, 1, 0), -1);
            checks.due("7: no such b", x.note(sort, 1, 3, 0), -1);
            checks.due("7: a below 0", x.note(sort, -1, 1, 0), -1);
            checks.due("7: b below 0", x.note(sort, 1, MIN, 0), -1);
        }
        checks.due("7: no such layer", x.note(3, 3, 1, 2), -1);
        checks.due("7: year below 0", x.note(3, 0, -1, 2), -1);
        checks.due("7: year above", x.note(3, 0, 1, 10000), -1);
        checks.due("7: both above", x.note(3, 0, 10000, 10000), -1);
        checks.due("7: turned round", x.note(3, 0, 3, 2), -1);
        checks.due("7: five in all", x.count(2), 5);
        for (int i = 5; i < 80; i++) {
            checks.due("7: up to 80", x.note(0, 1, 0, 0), i);
        }
        checks.due("7: an 81st", x.note(0, 1, 0, 0), -1);
        checks.due("8: an 81st", x.strike(0), -1);
        checks.due("4: an 81st", x.finds(0, 0), -2);
    }

    private void strikes() {
        ShellHeap x = Desks.withLayers(2);
        checks.due("8: none there", x.strike(0), -1);
        checks.due("8: below 0", x.strike(-1), -1);
        x.note(0, 1, 0, 0);
        checks.due("8: not yet there", x.strike(1), -1);
        checks.due("8: struck", x.strike(0), 1);
        checks.due("8: not known by 1", x.order(1, 1, 0), 1);
        checks.due("8: known by 2", x.order(2, 1, 0), 0);
        checks.due("8: struck twice", x.strike(0), 2);
        checks.due("8: the first strike struck", x.strike(1), 3);
        checks.due("8: the second one still counts", x.order(4, 1, 0), 0);
        checks.due("8: it is struck, too", x.strike(2), 4);
        checks.due("8: none counts", x.order(5, 1, 0), 1);
        checks.due("8: that strike is struck", x.strike(4), 5);
        checks.due("8: so the second one counts", x.order(6, 1, 0), 0);
        checks.due("8: and earlier it did not", x.order(5, 1, 0), 1);
    }

    private void beds() {
        ShellHeap x = Desks.withLayers(5);
        x.note(2, 4, 3, 0);
        x.note(2, 1, 3, 0);
        checks.due("9: by one note", x.bed(1, 4, 0), 3);
        checks.due("9: by a row", x.bed(2, 4, 0), 1);
        checks.due("9: all of the row", x.bed(2, 3, 0), 1);
        checks.due("9: three layers", x.bed(2, 4, 1), 3);
        checks.due("9: one layer", x.bed(2, 2, 1), 1);
        checks.due("9: none known", x.bed(0, 4, 0), 4);
        checks.due("9: a layer of no note", x.bed(2, 0, 0), 0);
        checks.due("9: no such n", x.bed(3, 0, 0), -2);
        checks.due("9: n below 0", x.bed(-1, 0, 0), -2);
        checks.due("9: no such layer", x.bed(2, 5, 0), -2);
        checks.due("9: layer below 0", x.bed(2, -1, 0), -2);
        checks.due("9: no such what", x.bed(2, 0, 5), -2);
        checks.due("9: what below 0", x.bed(2, 0, -1), -2);
        x.layer();
        checks.due("9: a layer that came later", x.bed(0, 5, 0), 5);
    }

    private void ranks() {
        ShellHeap x = Desks.withLayers(6);
        x.note(0, 5, 4, 0);
        x.note(1, 4, 3, 0);
        x.note(0, 3, 0, 0);
        x.note(0, 5, 0, 0);
        x.note(2, 1, 3, 0);
        x.note(0, 2, 1, 0);
        int[] ranks = {0, 1, 2, 1, 2, 3};
        for (int i = 0; i < 6; i++) {
            checks.due("9: rank of " + i, x.bed(6, i, 2), ranks[i]);
        }
        checks.due("9: rank as known by 1", x.bed(1, 5, 2), 1);
        checks.due("9: rank as known by 0", x.bed(0, 5, 2), 0);
    }

    private void spans() {
        ShellHeap x = Desks.withLayers(4);
        x.note(0, 1, 0, 0);
        x.note(0, 2, 1, 0);
        x.note(3, 0, 100, 500);
        x.note(3, 2, 50, 300);
        x.note(2, 3, 1, 0);
        x.note(3, 3, 120, 9000);
        checks.due("9: least of the lowest", x.bed(6, 0, 3), 100);
        checks.due("9: greatest of the lowest", x.bed(6, 0, 4), 300);
        checks.due("9: least between", x.bed(6, 1, 3), 120);
        checks.due("9: greatest between", x.bed(6, 1, 4), 300);
        checks.due("9: the same bed", x.bed(6, 3, 4), 300);
        checks.due("9: least of the highest", x.bed(6, 2, 3), 120);
        checks.due("9: greatest of the highest", x.bed(6, 2, 4), 300);
        checks.due("9: before the last note", x.bed(5, 2, 3), 100);
        checks.due("9: without dates", x.bed(0, 2, 4), 9999);
        x.note(3, 0, 300, 400);
        checks.due("9: the same year holds", x.bed(7, 2, 3), 300);
        x.note(3, 2, 0, 299);
        checks.due("9: no years hold: least", x.bed(8, 3, 3), -1);
        checks.due("9: no years hold: greatest", x.bed(8, 3, 4), -1);
        checks.due("9: but ranks do", x.bed(8, 2, 2), 2);
        checks.due("11: no years hold", x.quarrel(8), 2);
        checks.due("11: earlier they did", x.quarrel(7), 0);
    }

    private void orders() {
        ShellHeap x = Desks.withLayers(4);
        x.note(0, 1, 0, 0);
        x.note(1, 2, 1, 0);
        x.note(2, 3, 0, 0);
        checks.due("10: over", x.order(3, 1, 0), 1);
        checks.due("10: under", x.order(3, 0, 1), 2);
        checks.due("10: by a row", x.order(3, 2, 0), 1);
        checks.due("10: by a bed", x.order(3, 3, 2), 2);
        checks.due("10: one bed", x.order(3, 0, 3), 0);
        checks.due("10: itself", x.order(3, 2, 2), 0);
        checks.due("10: not yet known", x.order(1, 2, 0), 0);
        checks.due("10: no such n", x.order(4, 1, 0), -1);
        checks.due("10: n below 0", x.order(-1, 1, 0), -1);
        checks.due("10: no such a", x.order(3, 4, 0), -1);
        checks.due("10: no such b", x.order(3, 0, 4), -1);
        checks.due("10: a below 0", x.order(3, -1, 0), -1);
        checks.due("10: b below 0", x.order(3, 0, MIN), -1);
    }

    private void quarrels() {
        ShellHeap x = Desks.withLayers(2);
        checks.due("11: none", x.quarrel(0), 0);
        checks.due("11: no such n", x.quarrel(1), -1);
        checks.due("11: n below 0", x.quarrel(-1), -1);
        x.note(3, 0, 10, 20);
        x.note(3, 0, 21, 30);
        checks.due("11: two dates of one layer", x.quarrel(2), 2);
        x.note(0, 0, 1, 0);
        x.note(0, 1, 0, 0);
        checks.due("11: a ring goes ahead of years", x.quarrel(4), 1);
        checks.due("11: before it", x.quarrel(3), 2);
    }

    private void rings() {
        ShellHeap x = Desks.withLayers(4);
        x.note(0, 1, 0, 0);
        x.note(0, 0, 1, 0);
        x.note(0, 3, 2, 0);
        checks.due("10: both in a ring", x.order(3, 0, 1), 3);
        checks.due("10: itself in a ring", x.order(3, 1, 1), 3);
        checks.due("10: beside the ring", x.order(3, 3, 2), 1);
        checks.due("10: beside the ring itself", x.order(3, 3, 3), 0);
        checks.due("9: rank in a ring", x.bed(3, 3, 2), -1);
        checks.due("9: years in a ring", x.bed(3, 3, 3), -1);
        checks.due("9: number in a ring", x.bed(3, 3, 0), 3);
        ShellHeap y = Desks.withLayers(2);
        y.note(0, 1, 0, 0);
        y.note(2, 0, 1, 0);
        checks.due("11: a bed over itself is a ring", y.quarrel(2), 1);
        checks.due("10: a bed over itself", y.order(2, 0, 1), 3);
        checks.due("28: and is one bed", y.count(0), 1);
    }

    private void counts() {
        ShellHeap x = Desks.withLayers(3);
        x.note(2, 0, 2, 0);
        x.column(0, 0);
        x.kind(1, 1);
        x.kind(1, 2);
        x.measure(0, 1, 1, 1);
        Texts.rules(x, "cause a: 1 + then rank; cause b: not 2;");
        int[] due = {2, 3, 1, 1, 2, 1, 2, 6};
        for (int what = 0; what < due.length; what++) {
            checks.due("28: count(" + what + ")", x.count(what), due[what]);
        }
        for (int what : new int[] {-1, 8, MIN, MAX}) {
            int thrown = 0;
            try {
                x.count(what);
            } catch (NoSuchElementException none) {
                thrown = 1;
            }
            checks.due("28: count(" + what + ") throws", thrown, 1);
        }
        x.strike(0);
        checks.due("28: beds when all is struck", x.count(0), 3);
    }
}
