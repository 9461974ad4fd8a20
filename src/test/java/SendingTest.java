/** Promises 34 to 37: send, sent, count, near. */
public final class SendingTest {
    private static final int NONE = LampYear.NONE;
    private static final int MAX = Integer.MAX_VALUE;

    private SendingTest() {
    }

    public static void main(String[] args) {
        sendThatCant();
        latestFirst();
        sumThen();
        lesserThen();
        seven();
        tongues();
        noWay();
        sentBefore();
        counts();
        countsThatCant();
        nearest();
        nearWithSeat();
        nearThatCant();
        Due.end();
    }

    /** PLACES in a row, a WEEK apart; a LAMP in each. */
    private static LampYear row(int places) {
        LampYear x = new LampYear();
        for (int i = 0; i < places; i++) {
            x.place(0);
            x.lamp(i);
            if (i > 0) {
                x.way(i - 1, i, 1, NONE, NONE);
            }
        }
        return x;
    }

    private static void fill(LampYear x, int tray, int sort, int... v) {
        x.tray(tray, sort, v.length);
        for (int i = 0; i < v.length; i++) {
            x.write(tray, i, v[i]);
        }
    }

    private static void sent(LampYear x, int... want) {
        for (int k = 0; k < want.length; k++) {
            Due.is(x, "sent(" + k + ")", x.sent(k), want[k]);
        }
        Due.none(x, "sent behind the last", x.sent(want.length), 6);
    }

    private static void sendThatCant() {
        LampYear x = row(3);
        x.teacher(1, 0);
        x.teacher(1, 1);
        Due.none(x, "TRAY 4", x.send(4, 0, 1, 0), 1);
        Due.none(x, "TRAY -1", x.send(0, -1, 1, 0), 1);
        Due.none(x, "0 of them", x.send(0, 1, 0, 0), 1);
        Due.none(x, "8 of them", x.send(0, 1, 8, 0), 1);
        Due.none(x, "WEEK 60", x.send(0, 1, 1, 60), 1);
        Due.none(x, "WEEK -1", x.send(0, 1, 1, -1), 1);
        Due.none(x, "both MISSING", x.send(0, 1, 1, 0), 2);
        fill(x, 0, 0, 0, 1);
        Due.none(x, "TEACHERS' MISSING", x.send(0, 1, 3, 0), 2);
        Due.none(x, "LAMPS' MISSING", x.send(1, 0, 3, 0), 2);
        fill(x, 1, 3, 0);
        Due.none(x, "too few TEACHERS", x.send(0, 1, 2, 0), 3);
        Due.none(x, "too few LAMPS", x.send(1, 0, 2, 0), 3);
        fill(x, 1, 3, 0, 2);
        Due.none(x, "no such TEACHER", x.send(0, 1, 2, 0), 1);
        Due.is(x, "but the first number alone", x.send(0, 1, 1, 0), 0);
        x.write(1, 1, -1);
        Due.none(x, "no such TEACHER", x.send(0, 1, 2, 0), 1);
        x.write(1, 1, 1L << 32 | 1);
        Due.none(x, "no such TEACHER", x.send(0, 1, 2, 0), 1);
        x.write(1, 1, 64);
        Due.none(x, "no such TEACHER", x.send(0, 1, 2, 0), 1);
        x.write(1, 1, 0);
        Due.none(x, "one twice", x.send(0, 1, 2, 0), 1);
        x.write(1, 1, 1);
        Due.is(x, "two", x.send(0, 1, 2, 0), 0);
        x.write(0, 1, 3);
        Due.none(x, "no such LAMP", x.send(0, 1, 2, 0), 1);
        x.write(0, 1, 0);
        Due.none(x, "a LAMP twice", x.send(0, 1, 2, 0), 1);
    }

    private static void latestFirst() {
        LampYear x = row(6);
        x.teacher(1, 0);
        x.teacher(1, 1);
        // 0 to LAMP 1 and 1 to LAMP 5: 1 and 4; the other way 5 and 0
        fill(x, 0, 0, 1, 5);
        fill(x, 1, 1, 0, 1);
        Due.is(x, "the least latest", x.send(0, 1, 2, 0), 4);
        sent(x, 0, 1);
        Due.is(x, "later", x.send(0, 1, 2, 50), 54);
        fill(x, 0, 2, 5, 1);
        Due.is(x, "LAMPS as they were told", x.send(0, 1, 2, 0), 4);
        sent(x, 1, 0);
    }

    private static void sumThen() {
        // LAMP 0 with TEACHER 0 is 3, LAMP 1 with 1 is 3 (sum 6); LAMP 0 with 1 is 3, LAMP 1 with 0 is 1 (sum 4)
        LampYear x = new LampYear();
        for (int i = 0; i < 4; i++) {
            x.place(0);
        }
        x.lamp(0);
        x.lamp(1);
        x.teacher(1, 2);
        x.teacher(1, 3);
        x.way(0, 2, 3, NONE, NONE);
        x.way(1, 3, 3, NONE, NONE);
        x.way(0, 3, 3, NONE, NONE);
        x.way(1, 2, 1, NONE, NONE);
        fill(x, 0, 0, 0, 1);
        fill(x, 1, 0, 0, 1);
        Due.is(x, "the latest is alike", x.send(0, 1, 2, 5), 8);
        sent(x, 1, 0);
    }

    private static void lesserThen() {
        LampYear x = row(3);
        for (int i = 0; i < 8; i++) {
            x.teacher(1, 1);
        }
        fill(x, 0, 0, 2, 0, 1);
        fill(x, 1, 0, 7, 3, 5);
        Due.is(x, "all wait in one PLACE", x.send(0, 1, 3, 0), 1);
        sent(x, 3, 5, 7);
        fill(x, 1, 0, 5, 7, 3);
        Due.is(x, "as they stand in the TRAY does not matter", x.send(0, 1, 3, 0), 1);
        sent(x, 3, 5, 7);
    }

    private static void seven() {
        LampYear x = row(12);
        for (int i = 0; i < 7; i++) {
            x.teacher(1, 11 - i);
        }
        fill(x, 0, 0, 0, 1, 2, 3, 4, 5, 6, 99);
        fill(x, 1, 0, 0, 1, 2, 3, 4, 5, 6);
        Due.is(x, "seven", x.send(0, 1, 7, 0), 5);
        sent(x, 6, 5, 4, 3, 2, 1, 0);
    }

    private static void tongues() {
        LampYear x = row(3);
        x.teacher(1, 0);
        x.teacher(2, 1);
        for (int i = 0; i < 5; i++) {
            x.learner(0, 9, i < 2 ? 0 : i < 4 ? 1 : 4);
            x.note(1, i, 0, 5, 9, 0);
        }
        fill(x, 0, 0, 0);
        fill(x, 1, 0, 1);
        Due.is(x, "nobody's LAMP", x.send(0, 1, 1, 4), 5);
        Due.none(x, "of like ones the lesser", x.send(0, 1, 1, 5), 6);
        x.note(2, 0, NONE, 5, 5, 0);
        Due.is(x, "most have TONGUE 1", x.send(0, 1, 1, 5), 6);
        Due.none(x, "not the next WEEK", x.send(0, 1, 1, 6), 6);
        fill(x, 1, 0, 0);
        Due.is(x, "TONGUE 0", x.send(0, 1, 1, 6), 6);
        Due.none(x, "TONGUE 1", x.send(0, 1, 1, 5), 6);
        x.asof(0);
        x.note(2, 1, NONE, 5, 59, 3);
        Due.is(x, "as it is KNOWN", x.send(0, 1, 1, 6), 6);
        x.asof(59);
        Due.none(x, "as it is KNOWN", x.send(0, 1, 1, 6), 6);
    }

    private static void noWay() {
        LampYear x = row(3);
        x.place(0);
        x.lamp(3);
        x.teacher(1, 0);
        x.teacher(1, 0);
        fill(x, 0, 0, 2, 3);
        fill(x, 1, 0, 0, 1);
        Due.none(x, "no ARRIVAL", x.send(0, 1, 2, 0), 6);
        Due.is(x, "of the first alone", x.send(0, 1, 1, 57), 59);
        Due.none(x, "behind WEEK 59", x.send(0, 1, 1, 58), 6);
        // each of its own: both could go to LAMP 2 alone
        fill(x, 0, 0, 2, 1);
        x.learner(0, 9, 3);
        x.note(1, 0, 1, 0, 59, 0);
        Due.none(x, "none for LAMP 1", x.send(0, 1, 2, 0), 6);
    }

    private static void sentBefore() {
        LampYear x = row(3);
        Due.none(x, "ahead of any", x.sent(0), 6);
        Due.none(x, "below 0", x.sent(-1), 1);
        Due.none(x, "MIN", x.sent(Integer.MIN_VALUE), 1);
        Due.none(x, "MAX", x.sent(MAX), 6);
        x.teacher(1, 0);
        x.teacher(1, 1);
        fill(x, 0, 0, 0, 1);
        fill(x, 1, 0, 1, 0);
        x.send(0, 1, 2, 0);
        sent(x, 0, 1);
        x.send(0, 1, 8, 0);
        sent(x, 0, 1);
        x.write(0, 0, 2);
        Due.none(x, "not in time", x.send(0, 1, 1, 59), 6);
        sent(x, 0, 1);
        Due.is(x, "in time", x.send(0, 1, 1, 0), 1);
        sent(x, 1);
    }

    private static void counts() {
        LampYear x = new LampYear();
        int[][] want = {{10, 5, 5, 7, 10}, {10, 5, 0, 0, 3}, {1, 1, 1, 1, 1}, {1, 1, 0, 0, 0}, {60, 60, 30, 30, 30},
            {60, 60, 0, 0, 0}, {60, 60, 60, 60, 60}, {2, 1, 1, 1, 2}, {2, 1, 0, 0, 1},
            // a chance of just 1 in 20 is not above it: 1 of 20, and 3 of 6 out of 6 in 20 ways
            {20, 1, 1, 2, 20}, {20, 1, 0, 0, 18}, {6, 3, 3, 4, 6}, {6, 3, 0, 0, 2}};
        for (int[] w : want) {
            String what = w[2] + " of " + w[1] + " of " + w[0];
            Due.is(x, "LOW of " + what, x.count(w[0], w[1], w[2], 0), w[3]);
            Due.is(x, "HIGH of " + what, x.count(w[0], w[1], w[2], 1), w[4]);
        }
        Plain p = new Plain();
        for (int all = 1; all <= 60; all += all < 12 ? 1 : 12) {
            for (int drawn = 1; drawn <= all; drawn++) {
                // an object is used for 512 calls alone
                x = new LampYear();
                for (int found = 0; found <= drawn; found += 1 + all / 20) {
                    Due.is(x, "LOW", x.count(all, drawn, found, 0), p.count(all, drawn, found, 0));
                    Due.is(x, "HIGH", x.count(all, drawn, found, 1), p.count(all, drawn, found, 1));
                }
            }
        }
    }

    private static void countsThatCant() {
        LampYear x = new LampYear();
        Due.none(x, "of 0", x.count(0, 0, 0, 0), 1);
        Due.none(x, "of 61", x.count(61, 1, 1, 0), 1);
        Due.none(x, "0 drawn", x.count(5, 0, 0, 0), 1);
        Due.none(x, "6 drawn of 5", x.count(5, 6, 1, 0), 1);
        Due.none(x, "-1 READ", x.count(5, 3, -1, 0), 1);
        Due.none(x, "4 READ of 3", x.count(5, 3, 4, 0), 1);
        Due.none(x, "what 2", x.count(5, 3, 1, 2), 1);
        Due.none(x, "what -1", x.count(5, 3, 1, -1), 1);
        Due.none(x, "MAX", x.count(MAX, MAX, MAX, 0), 1);
    }

    private static void nearest() {
        LampYear x = row(5);
        for (int i = 0; i < 4; i++) {
            x.teacher(1, 0);
        }
        Due.none(x, "none LIT", x.near(2, 0), 6);
        x.note(0, 0, 4, 0, 59, 0);
        Due.is(x, "LAMP 4", x.near(2, 0), 4);
        x.note(0, 1, 0, 0, 59, 0);
        Due.is(x, "of several the lesser", x.near(2, 0), 0);
        x.note(0, 2, 3, 0, 59, 0);
        Due.is(x, "reached first", x.near(2, 0), 3);
        Due.is(x, "LIT in that WEEK", x.near(2, 58), 3);
        Due.none(x, "by no ARRIVAL", x.near(2, 59), 6);
        x.lamp(2);
        x.note(0, 3, 5, 59, 59, 0);
        Due.is(x, "in its own PLACE", x.near(2, 59), 5);
        Due.is(x, "not LIT a WEEK ahead", x.near(2, 58), 3);
    }

    private static void nearWithSeat() {
        LampYear x = new LampYear();
        x.place(0);
        x.place(1);
        x.way(0, 1, 1, 3, 9);
        x.lamp(0);
        x.lamp(0);
        x.lamp(1);
        x.teacher(1, 0);
        x.teacher(1, 0);
        x.note(0, 0, 1, 0, 59, 0);
        x.note(0, 1, 2, 0, 59, 0);
        x.learner(0, 9, 0);
        x.learner(0, 9, 0);
        x.note(1, 0, 1, 0, 59, 0);
        x.note(1, 1, 1, 5, 59, 0);
        Due.orders(x, "a:room 2;", 0, 1);
        Due.is(x, "one of two", x.near(0, 0), 1);
        Due.is(x, "two of two", x.near(0, 5), 2);
        Due.is(x, "LEARNERS who may not count, too", Due.orders(x, "a:may 1=2;", 0, 1), 1);
        Due.is(x, "two of two", x.near(0, 5), 2);
        Due.orders(x, "a:room 1;", 0, 2);
        Due.is(x, "ROOM of its own SHIRE", x.near(0, 4), 1);
        x.note(1, 0, 2, 20, 20, 0);
        Due.is(x, "one moved", x.near(0, 20), 1);
        x.note(1, 0, 2, 21, 59, 0);
        Due.orders(x, "b:room 1;", 21, 1);
        Due.none(x, "both full", x.near(0, 21), 6);
    }

    private static void nearThatCant() {
        LampYear x = row(2);
        x.teacher(1, 0);
        x.note(0, 0, 0, 0, 9, 0);
        Due.none(x, "it is LIT", x.near(0, 9), 7);
        Due.none(x, "it is not", x.near(0, 10), 6);
        Due.none(x, "no such LAMP", x.near(2, 0), 1);
        Due.none(x, "no such LAMP", x.near(-1, 0), 1);
        Due.none(x, "no such WEEK", x.near(0, 60), 1);
        Due.none(x, "no such WEEK", x.near(0, -1), 1);
    }
}
