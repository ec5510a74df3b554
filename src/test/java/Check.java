import java.util.function.LongSupplier;

/** Counts the answers that are not as due, and ends the test with exit code 1 if there was one. */
final class Check {
    private int checked;
    private int wrong;

    void due(String call, long got, long want) {
        checked++;
        if (got != want) {
            wrong++;
            System.out.println(call + " answered " + got + ", due is " + want);
        }
    }

    void same(String what, String got, String want) {
        checked++;
        if (!got.equals(want)) {
            wrong++;
            System.out.println(what + ": is " + got + ", due is " + want);
        }
    }

    /** A call that has this answer, one below 0, and changes nothing that can be asked for but place. */
    void unchanged(String what, PayChain x, LongSupplier call, int answer) {
        String before = state(x);
        due(what, call.getAsLong(), answer);
        same("after " + what, state(x), before);
    }

    void end() {
        System.out.println(checked + " answers, " + wrong + " not as due");
        if (wrong != 0) {
            System.exit(1);
        }
    }

    /** The MAC of the document, over a whole row at once. */
    static int mac(int key, int... row) {
        int m = key;
        for (int b : row) {
            m = (m ^ b) * 16777619;
            m = m ^ (m >>> 13);
        }
        return m;
    }

    /** All that an object tells but place, to see that a call changed nothing. */
    static String state(PayChain x) {
        StringBuilder all = new StringBuilder();
        for (int i = 0; i < 9; i++) {
            all.append(x.last(i)).append(' ');
        }
        for (int i = 0; i < 40; i++) {
            all.append(x.data(i)).append(' ');
        }
        for (int card = 0; card < 4; card++) {
            for (int what = 0; what < 6; what++) {
                all.append(x.card(card, what)).append(' ');
            }
            all.append(x.value(card, 24356, 1)).append(' ');
        }
        for (int account = 0; account < 8; account++) {
            all.append(x.balance(account)).append(' ');
        }
        for (int i = 0; i < 7; i++) {
            all.append(x.queued(i)).append(' ');
        }
        for (int i = 0; i < 5; i++) {
            all.append(x.count(i)).append(' ');
        }
        return all.toString();
    }
}
