import java.util.ArrayList;
import java.util.Collections;
import java.util.List;
import java.util.Random;

/** Random runs of calls, each answer beside that of a second reading of the document. */
public final class ReadingTest {
    private static final int RUNS = 1500;
    private static final int RUNS_OF_PAYMENTS = 50;
    private static final int CALLS = 512;
    private static final int[] TAGS = {90, 140, 142, 24356, 40717, 40718, 40719, 40724, 40739, 97, 32, 32545, 24352,
        80, 7936, 0, 255, 65407, 40706};
    private static final int[] DEMANDS = {40706, 149, 154, 40759, 80, 24352};
    private static final int[] CODES = {0, 1, 31, 64, 65, 65, 65, 95, 2, 66, 129, 159, 193};
    private static final int[] FLAGS = {0, 0, 0, 1, 4, 8, 16, 32, 64, 128, 256, 512, 1024, 65535};
    private static final int[] KEYS = {7, 7, 7, 7, 7, 7, 7, 7, 0, -1, Integer.MIN_VALUE};
    private static final int[] EDGES = {Integer.MIN_VALUE, -2, -1, 4, 7, 8, 9, 60, 255, 256, 9999, 10000, 65535, 65536,
        999999, 1000000, 9999999, 10000000, Integer.MAX_VALUE};

    private final Check check;
    private final Random random;
    private final int seed;
    private final PayChain x = new PayChain();
    private final Reading reading = new Reading();
    private final List<String> calls = new ArrayList<>();
    private boolean wrong;

    private ReadingTest(Check check, int seed) {
        this.check = check;
        this.random = new Random(seed);
        this.seed = seed;
    }

    public static void main(String[] args) {
        Check c = new Check();
        for (int seed = 0; seed < RUNS; seed++) {
            new ReadingTest(c, seed).run();
        }
        for (int seed = 0; seed < RUNS_OF_PAYMENTS; seed++) {
            new ReadingTest(c, RUNS + seed).runOfPayments();
        }
        c.end();
    }

    private void run() {
        if (!oneIn(4)) {
            readyToAsk();
            makeCard();
        }
        while (!isOver()) {
            step();
        }
    }

    /** Payments with little in between, so that the COUNTER and the numbers go above 255. */
    private void runOfPayments() {
        readyToAsk();
        feedAll(List.of(90, 1, 1, 95, 36, 2, 0, 100, 140, 6, 159, 55, 2, 159, 2, 3));
        due("make(1, 7, 1)", x.make(1, 7, 1), reading.make(1, 7, 1));
        while (!isOver()) {
            int amount = 1 + random.nextInt(5);
            due("pay(1, " + amount + ", 1, 0)", x.pay(1, amount, 1, 0), reading.pay(1, amount, 1, 0));
            if (oneIn(4) && !isOver()) {
                due("last(4)", x.last(4), reading.last(4));
            }
            if (oneIn(8) && !isOver()) {
                ask();
            }
        }
    }

    /** Beyond the 512th call, and after a wrong answer, nothing more is told. */
    private boolean isOver() {
        return wrong || calls.size() >= CALLS;
    }

    private void due(String call, long got, long want) {
        calls.add(call);
        check.due("run " + seed + ", call " + calls.size() + ": " + call, got, want);
        if (got != want) {
            wrong = true;
            System.out.println("  after " + calls);
        }
    }

    private boolean oneIn(int n) {
        return random.nextInt(n) == 0;
    }

    private int of(int... choices) {
        return choices[random.nextInt(choices.length)];
    }

    /** A number 0 .. most, and now and then an edge of some call or another. */
    private int upTo(int most) {
        return oneIn(25) ? of(EDGES) : random.nextInt(most + 1);
    }

    // Texts.

    private static void addTag(List<Integer> row, int tag) {
        if (tag > 255) {
            row.add(tag / 256);
        }
        row.add(tag % 256);
    }

    private void addObject(List<Integer> row, int tag, List<Integer> value) {
        addTag(row, tag);
        if (oneIn(12) || value.size() > 127) {
            row.add(129);
        }
        row.add(value.size());
        row.addAll(value);
    }

    private List<Integer> bytes(int n) {
        List<Integer> row = new ArrayList<>();
        for (int i = 0; i < n; i++) {
            row.add(oneIn(3) ? random.nextInt(256) : random.nextInt(4));
        }
        return row;
    }

    private List<Integer> pair(int number) {
        return new ArrayList<>(List.of(number / 256, number % 256));
    }

    private List<Integer> list() {
        List<Integer> row = new ArrayList<>();
        int n = oneIn(8) ? random.nextInt(11) : random.nextInt(5);
        for (int i = 0; i < n; i++) {
            addTag(row, oneIn(60) ? random.nextInt(256) : of(DEMANDS));
            row.add(oneIn(12) ? random.nextInt(42) : random.nextInt(6));
        }
        return row;
    }

    private List<Integer> rules() {
        List<Integer> row = pair(oneIn(3) ? random.nextInt(65536) : 50);
        int n = oneIn(8) ? random.nextInt(8) : random.nextInt(4);
        for (int i = 0; i < n; i++) {
            row.add(oneIn(6) ? random.nextInt(256) : of(CODES));
            row.add(random.nextInt(5));
        }
        return row;
    }

    private List<Integer> valueOf(int tag) {
        if (oneIn(60)) {
            return bytes(random.nextInt(4));
        }
        switch (tag) {
            case 90: return new ArrayList<>(List.of(oneIn(20) ? random.nextInt(12) : random.nextInt(3)));
            case 140: return list();
            case 142: return rules();
            case 24356: return pair(oneIn(5) ? random.nextInt(65536) : 100);
            case 40717:
            case 40719: return pair(of(FLAGS));
            case 40718: return pair(oneIn(3) ? of(FLAGS) : 0);
            case 40724:
            case 40739: return new ArrayList<>(List.of(oneIn(6) ? random.nextInt(256) : random.nextInt(4)));
            case 97:
            case 32:
            case 32545: return objects(random.nextInt(3));
            default: return bytes(random.nextInt(3));
        }
    }

    private List<Integer> objects(int n) {
        List<Integer> row = new ArrayList<>();
        for (int i = 0; i < n; i++) {
            int tag = of(TAGS);
            addObject(row, tag, valueOf(tag));
        }
        return row;
    }

    /** What a card needs, some of what it may have, at times inside of others, at times twice. */
    private List<Integer> text() {
        List<List<Integer>> parts = new ArrayList<>();
        for (int tag : new int[] {90, 140, 24356}) {
            if (!oneIn(60)) {
                parts.add(object(tag));
            }
        }
        for (int tag : new int[] {142, 40717, 40718, 40719, 40724, 40739, 40739}) {
            if (oneIn(3)) {
                parts.add(object(tag));
            }
        }
        parts.add(objects(random.nextInt(3)));
        Collections.shuffle(parts, random);
        List<Integer> row = new ArrayList<>();
        for (List<Integer> part : parts) {
            row.addAll(part);
            if (oneIn(15)) {
                row = wrapped(row);
            }
        }
        return row;
    }

    private List<Integer> object(int tag) {
        List<Integer> row = new ArrayList<>();
        addObject(row, tag, valueOf(tag));
        return row;
    }

    private List<Integer> wrapped(List<Integer> inner) {
        List<Integer> row = new ArrayList<>();
        addObject(row, of(97, 32, 32545, 225), inner);
        return row;
    }

    /** What a card needs, and a number of objects around the sixteen that it may have. */
    private List<Integer> manyObjects() {
        List<Integer> row = new ArrayList<>(List.of(90, 1, 2, 95, 36, 2, 0, 100, 140, 0));
        int n = 11 + random.nextInt(5);
        for (int i = 0; i < n; i++) {
            addObject(row, of(80, 97, 32, 0), new ArrayList<>());
        }
        return row;
    }

    /** An object inside of the other, around the three that may be around one. */
    private List<Integer> deepObjects() {
        List<Integer> row = oneIn(2) ? new ArrayList<>() : object(90);
        int n = 2 + random.nextInt(4);
        for (int i = 0; i < n; i++) {
            row = wrapped(row);
        }
        row.addAll(List.of(95, 36, 2, 0, 100, 140, 0, 90, 1, 2));
        return row;
    }

    private void spoil(List<Integer> row) {
        if (row.isEmpty()) {
            return;
        }
        int at = random.nextInt(row.size());
        switch (random.nextInt(3)) {
            case 0: row.set(at, oneIn(2) ? random.nextInt(256) : of(31, 32, 63, 127, 128, 129, 255)); break;
            case 1: row.remove(at); break;
            default: row.add(at, random.nextInt(256)); break;
        }
    }

    private void feedAll(List<Integer> row) {
        for (int i = 0; i < row.size() && !isOver(); i++) {
            int b = oneIn(500) ? of(EDGES) : row.get(i);
            due("feed(" + b + ")", x.feed(b), reading.feed(b));
        }
    }

    private void makeCard() {
        List<Integer> row = oneIn(10) ? manyObjects() : oneIn(10) ? deepObjects() : text();
        if (row.size() > 62) {
            return;
        }
        if (oneIn(6)) {
            spoil(row);
        }
        feedAll(row);
        make();
        if (!isOver()) {
            due("place()", x.place(), reading.place());
        }
        if (!isOver() && !oneIn(8)) {
            due("wipe()", x.wipe(), reading.wipe());
        }
    }

    // Calls.

    private void readyToAsk() {
        setting(2, 1);
        setting(3, 1);
        setting(6, 65535);
        account(random.nextInt(3), 1000, of(KEYS));
    }

    private void step() {
        int kind = random.nextInt(100);
        if (kind < 3) {
            makeCard();
        } else if (kind < 45) {
            pay();
        } else if (kind < 58) {
            setting(upTo(6), random.nextInt(3));
        } else if (kind < 64) {
            account(upTo(2), oneIn(5) ? upTo(9999999) : random.nextInt(1000), of(KEYS));
        } else if (kind < 70) {
            int fate = upTo(2);
            due("send(" + fate + ")", x.send(fate), reading.send(fate));
        } else {
            ask();
        }
    }

    private void make() {
        if (isOver()) {
            return;
        }
        int card = oneIn(20) ? of(EDGES) : random.nextInt(4);
        int key = of(KEYS);
        int pin = oneIn(20) ? of(EDGES) : random.nextInt(3);
        due("make(" + card + ", " + key + ", " + pin + ")", x.make(card, key, pin), reading.make(card, key, pin));
    }

    private void account(int account, int balance, int key) {
        due("account(" + account + ", " + balance + ", " + key + ")",
                x.account(account, balance, key), reading.account(account, balance, key));
    }

    /** A number that suits the setting; of FLOOR, the day, the connection and the pad one of three, by small. */
    private void setting(int which, int small) {
        int value = which == 0 ? 50 * small
                : which == 1 ? 99 + small
                : which == 2 || which == 3 ? small
                : which == 5 && !oneIn(4) ? 0
                : which == 6 && !oneIn(3) ? 65535
                : of(FLAGS);
        int number = oneIn(40) ? of(EDGES) : value;
        due("setting(" + which + ", " + number + ")", x.setting(which, number), reading.setting(which, number));
    }

    /** Most often a card that is there, if one is. */
    private int someCard() {
        if (oneIn(20)) {
            return of(EDGES);
        }
        int card = random.nextInt(4);
        for (int i = 0; i < 4 && reading.card(card, 0) < 0; i++) {
            card = i;
        }
        return card;
    }

    private void pay() {
        int card = someCard();
        int amount = oneIn(4) ? of(49, 50, 51, 99, 100, 101, 0, 1, 255, 256, 65535, 65536, 999999)
                : 1 + upTo(120);
        int pin = oneIn(4) ? -1 : upTo(2);
        int fate = oneIn(2) ? 0 : upTo(3);
        due("pay(" + card + ", " + amount + ", " + pin + ", " + fate + ")",
                x.pay(card, amount, pin, fate), reading.pay(card, amount, pin, fate));
        for (int what = 1; what < 8 && !isOver(); what++) {
            if (oneIn(4)) {
                due("last(" + what + ")", x.last(what), reading.last(what));
            }
        }
    }

    private void ask() {
        int card = someCard();
        int tag = oneIn(10) ? upTo(65535) : of(TAGS);
        int what = upTo(9);
        int i = oneIn(3) ? upTo(40) : upTo(6);
        switch (random.nextInt(10)) {
            case 0: due("last(" + what + ")", x.last(what), reading.last(what)); break;
            case 1: due("data(" + i + ")", x.data(i), reading.data(i)); break;
            case 2: due("card(" + card + ", " + what + ")", x.card(card, what), reading.card(card, what)); break;
            case 3: due("value(" + card + ", " + tag + ", " + i + ")",
                    x.value(card, tag, i), reading.value(card, tag, i)); break;
            case 4: due("inside(" + card + ", " + tag + ")", x.inside(card, tag), reading.inside(card, tag)); break;
            case 5: due("balance(" + what + ")", x.balance(what), reading.balance(what)); break;
            case 6: due("queued(" + i + ")", x.queued(i), reading.queued(i)); break;
            case 7: due("count(" + what + ")", x.count(what), reading.count(what)); break;
            case 8: due("place()", x.place(), reading.place()); break;
            default: due("card(" + card + ", " + i + ")", x.card(card, i), reading.card(card, i)); break;
        }
    }
}
