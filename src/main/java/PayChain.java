import java.util.ArrayList;

/** Payment by chip cards from end to end: cards, a terminal, a host and a queue of reversals. */
public final class PayChain {
    public static final int REFUSED = -1;
    public static final int FULL = -2;
    public static final int BAD = -3;
    public static final int UNFIT = -4;
    public static final int APPROVED = 1;
    public static final int DECLINED = 2;
    public static final int REMOVED = 3;

    /** No such place, object or value; below everything that a row can hold. */
    private static final int NONE = -1;

    private static final int TEXT_LIMIT = 60;
    private static final int OBJECT_LIMIT = 16;
    private static final int CARDS = 4;
    private static final int ACCOUNTS = 8;
    private static final int QUEUE_LIMIT = 6;
    private static final int DATA_LIMIT = 40;

    private static final int LARGEST_BYTE = 255;
    private static final int LARGEST_PIN = 9999;
    private static final int LARGEST_AMOUNT = 999999;
    private static final int LARGEST_BALANCE = 9999999;

    private static final int FATE_REQUEST_LOST = 1;
    private static final int FATE_REPLY_LOST = 2;
    private static final int FATE_CARD_OUT = 3;

    private static final int NO = 0;
    private static final int ASK = 1;
    private static final int YES = 2;

    private final Row text = new Row(TEXT_LIMIT);
    private final Card[] cards = new Card[CARDS];
    private final Terminal terminal = new Terminal();
    private final Host host = new Host();
    private final Payment payment = new Payment();
    private final ArrayList<Reversal> queue = new ArrayList<>();

    /** A text is read into this card first, so that a make that fails leaves the old card whole. */
    private Card spare = new Card();
    private int placeOfMake = REFUSED;
    private int approvedPayments;

    public PayChain() {
    }

    public int feed(int b) {
        if (!isWithin(b, 0, LARGEST_BYTE)) {
            return REFUSED;
        }
        return text.add(b) ? text.length() : FULL;
    }

    public int wipe() {
        int had = text.length();
        text.clear();
        return had;
    }

    public int make(int card, int key, int pin) {
        placeOfMake = REFUSED;
        if (!isWithin(card, 0, CARDS - 1) || !isWithin(pin, 0, LARGEST_PIN)) {
            return REFUSED;
        }
        int bad = spare.objects.read(text);
        if (bad != NONE) {
            placeOfMake = bad;
            return BAD;
        }
        if (spare.objects.size() > OBJECT_LIMIT) {
            return FULL;
        }
        int unfit = spare.unfitTag();
        if (unfit != NONE) {
            placeOfMake = unfit;
            return UNFIT;
        }
        spare.reset(key, pin);
        int objects = spare.objects.size();
        putSpare(card);
        text.clear();
        return objects;
    }

    public int place() {
        return placeOfMake;
    }

    public int account(int account, int balance, int key) {
        if (!isWithin(account, 0, ACCOUNTS - 1) || !isWithin(balance, 0, LARGEST_BALANCE)) {
            return REFUSED;
        }
        host.open(account, balance, key);
        return 0;
    }

    public int setting(int which, int value) {
        return terminal.set(which, value) ? 0 : REFUSED;
    }

    public int pay(int card, int amount, int pin, int fate) {
        Card payer = cardThere(card);
        if (payer == null || !isWithin(amount, 1, LARGEST_AMOUNT)
                || !isWithin(pin, NONE, LARGEST_PIN) || !isWithin(fate, 0, FATE_CARD_OUT)) {
            return REFUSED;
        }
        if (queue.size() >= QUEUE_LIMIT) {
            return FULL;
        }
        payment.start(amount, pin, fate);
        payment.run(payer, terminal, host);
        if (payment.outcome == APPROVED) {
            approvedPayments++;
        }
        if (payment.needsReversal(terminal)) {
            queue.add(new Reversal(payment, payer.accountNumber));
        }
        return payment.outcome;
    }

    public int send(int fate) {
        if (!isWithin(fate, 0, FATE_REPLY_LOST) || !terminal.isConnected() || queue.isEmpty()) {
            return REFUSED;
        }
        if (fate == FATE_REQUEST_LOST) {
            return 0;
        }
        host.reverse(queue.get(0));
        if (fate == FATE_REPLY_LOST) {
            return 0;
        }
        queue.remove(0);
        return 1;
    }

    public int last(int what) {
        return payment.tell(what);
    }

    public int data(int i) {
        return orRefused(payment.data.at(i));
    }

    public int card(int card, int what) {
        Card there = cardThere(card);
        return there == null ? REFUSED : there.tell(what);
    }

    public int value(int card, int tag, int i) {
        Card there = cardThere(card);
        if (there == null) {
            return REFUSED;
        }
        return orRefused(there.objects.byteOf(there.objects.first(tag), i));
    }

    public int inside(int card, int tag) {
        Card there = cardThere(card);
        if (there == null) {
            return REFUSED;
        }
        return orRefused(there.objects.innerOf(there.objects.first(tag)));
    }

    public long balance(int account) {
        return host.balanceOf(account);
    }

    public int queued(int i) {
        return isWithin(i, 0, queue.size() - 1) ? queue.get(i).number : REFUSED;
    }

    public int count(int what) {
        switch (what) {
            case 0: return text.length();
            case 1: return payment.number;
            case 2: return queue.size();
            case 3: return approvedPayments;
            case 4: return host.standing;
            default: return REFUSED;
        }
    }

    private Card cardThere(int card) {
        return isWithin(card, 0, CARDS - 1) ? cards[card] : null;
    }

    /** The card that was there becomes the spare one: its rows are used again. */
    private void putSpare(int card) {
        Card old = cards[card];
        cards[card] = spare;
        spare = old == null ? new Card() : old;
    }

    private static int orRefused(int found) {
        return found == NONE ? REFUSED : found;
    }

    private static boolean isWithin(int number, int least, int largest) {
        return number >= least && number <= largest;
    }

    /** A row of bytes that grows at its end, up to its room. */
    private static final class Row {
        private final int[] bytes;
        private int length;

        Row(int room) {
            bytes = new int[room];
        }

        int length() {
            return length;
        }

        void clear() {
            length = 0;
        }

        boolean add(int b) {
            if (length >= bytes.length) {
                return false;
            }
            bytes[length] = b;
            length++;
            return true;
        }

        int at(int i) {
            return i >= 0 && i < length ? bytes[i] : NONE;
        }

        /** The byte at a place, or NONE if that is not before the end. */
        int atBefore(int i, int end) {
            return i >= 0 && i < end && i < length ? bytes[i] : NONE;
        }

        void copy(Row other) {
            clear();
            for (int i = 0; i < other.length; i++) {
                add(other.at(i));
            }
        }
    }

    /** Tags, as objects and lists of demands have them. */
    private static final class Tag {
        static final int FLAGS = 149;
        static final int DAY = 154;
        static final int AMOUNT = 40706;
        static final int NUMBER = 40759;

        static final int ACCOUNT = 90;
        static final int LIST = 140;
        static final int RULES = 142;
        static final int END = 24356;
        static final int MASK_DEFAULT = 40717;
        static final int MASK_DENIAL = 40718;
        static final int MASK_ONLINE = 40719;
        static final int LOWER = 40724;
        static final int UPPER = 40739;

        private static final int LONG_TAG = 31;
        private static final int WITH_INNER = 32;

        /** The tag at a place of a row that is cut at an end, or NONE. */
        static int read(Row row, int at, int end) {
            int first = row.atBefore(at, end);
            if (first == NONE || (first & LONG_TAG) != LONG_TAG) {
                return first;
            }
            int next = row.atBefore(at + 1, end);
            return isWithin(next, 0, 127) ? 256 * first + next : NONE;
        }

        static int bytesOf(int tag) {
            return tag > LARGEST_BYTE ? 2 : 1;
        }

        static boolean hasInner(int tag) {
            int first = tag > LARGEST_BYTE ? tag / 256 : tag;
            return (first & WITH_INNER) != 0;
        }
    }

    /** The objects of a text, inner ones too, in the order of their first bytes. */
    private static final class ObjectTree {
        /** An object has two bytes or more, so a text has no more of them. */
        private static final int ROOM = TEXT_LIMIT / 2;
        private static final int MOST_AROUND = 3;
        private static final int LARGEST_SHORT_LENGTH = 127;
        private static final int LONG_LENGTH = 129;

        private final Row row = new Row(TEXT_LIMIT);
        private final int[] tags = new int[ROOM];
        private final int[] starts = new int[ROOM];
        private final int[] lengths = new int[ROOM];
        private final int[] inner = new int[ROOM];
        private int size;

        /** The place of the first BAD object, or NONE if all are kept. */
        int read(Row text) {
            row.copy(text);
            size = 0;
            return cut(0, row.length(), NONE, 0);
        }

        private int cut(int from, int end, int outer, int around) {
            if (around > MOST_AROUND) {
                return from < end ? from : NONE;
            }
            int at = from;
            for (int n = 0; n < ROOM && at < end; n++) {
                int tag = Tag.read(row, at, end);
                if (tag == NONE) {
                    return at;
                }
                int lengthAt = at + Tag.bytesOf(tag);
                int length = readLength(lengthAt, end);
                int start = lengthAt + (row.at(lengthAt) == LONG_LENGTH ? 2 : 1);
                if (length == NONE || length > end - start) {
                    return at;
                }
                int kept = keep(tag, start, length, outer);
                if (Tag.hasInner(tag)) {
                    int bad = cut(start, start + length, kept, around + 1);
                    if (bad != NONE) {
                        return bad;
                    }
                }
                at = start + length;
            }
            return NONE;
        }

        private int readLength(int at, int end) {
            int first = row.atBefore(at, end);
            if (first == LONG_LENGTH) {
                return row.atBefore(at + 1, end);
            }
            return first <= LARGEST_SHORT_LENGTH ? first : NONE;
        }

        private int keep(int tag, int start, int length, int outer) {
            if (size >= ROOM) {
                return NONE;
            }
            tags[size] = tag;
            starts[size] = start;
            lengths[size] = length;
            inner[size] = 0;
            if (isObject(outer)) {
                inner[outer]++;
            }
            size++;
            return size - 1;
        }

        private boolean isObject(int object) {
            return object >= 0 && object < size;
        }

        int size() {
            return size;
        }

        int first(int tag) {
            for (int i = 0; i < size; i++) {
                if (tags[i] == tag) {
                    return i;
                }
            }
            return NONE;
        }

        int lengthOf(int object) {
            return isObject(object) ? lengths[object] : 0;
        }

        int innerOf(int object) {
            return isObject(object) ? inner[object] : NONE;
        }

        private boolean hasByte(int object, int i) {
            return isObject(object) && i >= 0 && i < lengths[object];
        }

        int byteOf(int object, int i) {
            return hasByte(object, i) ? row.at(starts[object] + i) : NONE;
        }

        /** The tag at a place of an object's value, or NONE. */
        int tagOf(int object, int i) {
            if (!hasByte(object, i)) {
                return NONE;
            }
            return Tag.read(row, starts[object] + i, starts[object] + lengths[object]);
        }

        /** The first two bytes of a value as a number, or 0 if they are not there. */
        int pairOf(int object) {
            return hasByte(object, 1) ? 256 * byteOf(object, 0) + byteOf(object, 1) : 0;
        }
    }

    /** A card: its objects, what is read from them when it is made, and what payments change. */
    private static final class Card {
        /** In rising order, since the least one that does not fit is told. */
        private static final int[] USED_TAGS = {
            Tag.ACCOUNT, Tag.LIST, Tag.RULES, Tag.END, Tag.MASK_DEFAULT, Tag.MASK_DENIAL,
            Tag.MASK_ONLINE, Tag.LOWER, Tag.UPPER
        };
        private static final int MOST_RULES = 5;
        private static final int MOST_DEMANDS = 8;
        private static final int ALL_TRIES = 3;

        final ObjectTree objects = new ObjectTree();
        private int key;
        private int pin;
        private int tries;
        private int counter;
        private int run;
        private boolean seen;

        private int accountNumber;
        private int endDay;
        private int maskDefault;
        private int maskDenial;
        private int maskOnline;
        /** LOWER and UPPER are NONE on a card without them. */
        private int lower;
        private int upper;

        void reset(int newKey, int newPin) {
            key = newKey;
            pin = newPin;
            tries = ALL_TRIES;
            counter = 0;
            run = 0;
            seen = false;
            accountNumber = objects.byteOf(objects.first(Tag.ACCOUNT), 0);
            endDay = objects.pairOf(objects.first(Tag.END));
            maskDefault = objects.pairOf(objects.first(Tag.MASK_DEFAULT));
            maskDenial = objects.pairOf(objects.first(Tag.MASK_DENIAL));
            maskOnline = objects.pairOf(objects.first(Tag.MASK_ONLINE));
            lower = objects.byteOf(objects.first(Tag.LOWER), 0);
            upper = objects.byteOf(objects.first(Tag.UPPER), 0);
        }

        /** The least tag whose object is missing or not as a card needs it, or NONE. */
        int unfitTag() {
            for (int i = 0; i < USED_TAGS.length; i++) {
                if (!fits(USED_TAGS[i])) {
                    return USED_TAGS[i];
                }
            }
            return NONE;
        }

        private boolean fits(int tag) {
            int object = objects.first(tag);
            if (object == NONE) {
                return tag != Tag.ACCOUNT && tag != Tag.LIST && tag != Tag.END;
            }
            int length = objects.lengthOf(object);
            switch (tag) {
                case Tag.ACCOUNT: return length == 1 && objects.byteOf(object, 0) < ACCOUNTS;
                case Tag.LIST: return isList(object);
                case Tag.RULES: return length % 2 == 0 && isWithin(length, 2, 2 + 2 * MOST_RULES);
                case Tag.LOWER:
                case Tag.UPPER: return length == 1;
                default: return length == 2;
            }
        }

        private boolean isList(int object) {
            int at = 0;
            int sizes = 0;
            for (int n = 0; n < MOST_DEMANDS && at < objects.lengthOf(object); n++) {
                int tag = objects.tagOf(object, at);
                int sizeAt = at + Tag.bytesOf(tag);
                int size = objects.byteOf(object, sizeAt);
                if (tag == NONE || size == NONE) {
                    return false;
                }
                sizes += size;
                at = sizeAt + 1;
            }
            return at == objects.lengthOf(object) && sizes <= DATA_LIMIT;
        }

        int tell(int what) {
            switch (what) {
                case 0: return tries;
                case 1: return counter;
                case 2: return run;
                case 3: return seen ? 1 : 0;
                case 4: return objects.size();
                case 5: return accountNumber;
                default: return REFUSED;
            }
        }

        boolean isRunAtLower() {
            return lower != NONE && run >= lower;
        }

        boolean isRunAtUpper() {
            return upper != NONE && run >= upper;
        }

        boolean isBlocked() {
            return tries == 0;
        }

        /** Compares a typed pin and counts the tries. */
        boolean acceptsPin(int typed) {
            if (typed == pin) {
                tries = ALL_TRIES;
                return true;
            }
            tries--;
            return false;
        }

        int firstAnswer(int wish) {
            if (wish == NO || isBlocked()) {
                return NO;
            }
            return wish == ASK || isRunAtUpper() ? ASK : YES;
        }

        /** Takes the host's reply if its seal is right. */
        boolean acceptsReply(int code, int cryptogram, int seal) {
            if (Mac.seal(key, code, cryptogram) != seal) {
                return false;
            }
            run = 0;
            seen = true;
            return true;
        }
    }

    /** The terminal's settings. */
    private static final class Terminal {
        private static final int FLOOR = 0;
        private static final int DAY = 1;
        private static final int CONNECTED = 2;
        private static final int PAD = 3;
        private static final int MASK_DEFAULT = 4;
        private static final int MASK_DENIAL = 5;
        private static final int MASK_ONLINE = 6;
        private static final int SETTINGS = 7;
        private static final int LARGEST_SETTING = 999999;
        private static final int LARGEST_PAIR = 65535;

        private final int[] settings = new int[SETTINGS];

        boolean set(int which, int number) {
            int largest = which == DAY || which >= MASK_DEFAULT ? LARGEST_PAIR : LARGEST_SETTING;
            if (!isWithin(which, 0, SETTINGS - 1) || !isWithin(number, 0, largest)) {
                return false;
            }
            settings[which] = number;
            return true;
        }

        int floor() {
            return settings[FLOOR];
        }

        int day() {
            return settings[DAY];
        }

        boolean isConnected() {
            return settings[CONNECTED] != 0;
        }

        boolean hasPad() {
            return settings[PAD] != 0;
        }

        int maskDefault() {
            return settings[MASK_DEFAULT];
        }

        int maskDenial() {
            return settings[MASK_DENIAL];
        }

        int maskOnline() {
            return settings[MASK_ONLINE];
        }
    }

    /** The MACs that card and host make of what they tell one another. */
    private static final class Mac {
        private static final int FACTOR = 16777619;

        static int grow(int mac, int b) {
            int mixed = (mac ^ b) * FACTOR;
            return mixed ^ (mixed >>> 13);
        }

        static int cryptogram(int key, int answer, int counter, Row data) {
            int mac = grow(key, answer);
            mac = grow(mac, counter / 256 % 256);
            mac = grow(mac, counter % 256);
            for (int i = 0; i < data.length(); i++) {
                mac = grow(mac, data.at(i));
            }
            return mac;
        }

        static int seal(int key, int code, int cryptogram) {
            int mac = grow(key, code);
            for (int shift = 24; shift >= 0; shift -= 8) {
                mac = grow(mac, (cryptogram >>> shift) & LARGEST_BYTE);
            }
            return mac;
        }
    }

    /** The host and its accounts. */
    private static final class Host {
        private static final int BOOKED = 1;
        private static final int WRONG_KEY = 2;
        private static final int OLD_COUNTER = 3;
        private static final int TOO_DEAR = 4;

        private final long[] balances = new long[ACCOUNTS];
        private final int[] keys = new int[ACCOUNTS];
        private final int[] lasts = new int[ACCOUNTS];
        /** Payments that were booked and not reversed. */
        private int standing;

        void open(int account, int newBalance, int key) {
            if (isAccount(account)) {
                balances[account] = newBalance;
                keys[account] = key;
                lasts[account] = 0;
            }
        }

        private static boolean isAccount(int account) {
            return isWithin(account, 0, ACCOUNTS - 1);
        }

        long balanceOf(int account) {
            return isAccount(account) ? balances[account] : REFUSED;
        }

        /** Judges a request: the CODE. */
        int judge(int account, int counter, Row data, int cryptogram, int amount) {
            if (!isAccount(account)
                    || Mac.cryptogram(keys[account], ASK, counter, data) != cryptogram) {
                return WRONG_KEY;
            }
            if (counter <= lasts[account]) {
                return OLD_COUNTER;
            }
            lasts[account] = counter;
            if (balances[account] < amount) {
                return TOO_DEAR;
            }
            balances[account] -= amount;
            standing++;
            return BOOKED;
        }

        int sealOf(int account, int code, int cryptogram) {
            return isAccount(account) ? Mac.seal(keys[account], code, cryptogram) : 0;
        }

        void reverse(Reversal reversal) {
            if (reversal.isDue && isAccount(reversal.account)) {
                balances[reversal.account] += reversal.amount;
                standing--;
                reversal.isDue = false;
            }
        }
    }

    /** A payment is queued at most once, so what the host knows of it can go along with it. */
    private static final class Reversal {
        private final int number;
        private final int account;
        private final int amount;
        /** Whether the payment was booked and not reversed yet. */
        private boolean isDue;

        Reversal(Payment payment, int account) {
            this.number = payment.number;
            this.account = account;
            this.amount = payment.amount;
            this.isDue = payment.code == Host.BOOKED;
        }
    }

    /** The last payment; each new one is worked out in its place. */
    private static final class Payment {
        private static final int EXPIRED = 1;
        private static final int HOLDER_FAILED = 4;
        private static final int UNKNOWN_RULE = 8;
        private static final int PIN_NOT_ASKED = 16;
        private static final int NO_TRIES = 32;
        private static final int ABOVE_FLOOR = 64;
        private static final int RUN_LOWER = 128;
        private static final int RUN_UPPER = 256;
        private static final int NEVER_SEEN = 512;
        private static final int WRONG_SEAL = 1024;

        private static final int ELSE_NEXT = 64;
        private static final int RULE_FAIL = 0;
        private static final int RULE_PIN = 1;
        private static final int RULE_MET = 31;

        private final Row data = new Row(DATA_LIMIT);
        private int number;
        private int amount;
        private int typed;
        private int fate;
        private int outcome;
        private int flags;
        private int wish;
        private int firstAnswer;
        private int firstCryptogram;
        private int secondAnswer;
        private int secondCryptogram;
        private int code;

        void start(int newAmount, int newTyped, int newFate) {
            number++;
            amount = newAmount;
            typed = newTyped;
            fate = newFate;
            flags = 0;
            secondAnswer = NONE;
            secondCryptogram = 0;
            code = 0;
        }

        void run(Card card, Terminal terminal, Host host) {
            card.counter++;
            setIf(terminal.day() > card.endDay, EXPIRED);
            setIf(!card.seen, NEVER_SEEN);
            checkHolder(card, terminal);
            weighRisks(card, terminal);
            wish = findWish(card, terminal);
            gatherData(card, terminal);
            firstAnswer = card.firstAnswer(wish);
            firstCryptogram = Mac.cryptogram(card.key, firstAnswer, card.counter, data);
            if (firstAnswer == ASK) {
                askHost(card, terminal, host);
            } else {
                card.run += firstAnswer == YES ? 1 : 0;
                outcome = firstAnswer == YES ? APPROVED : DECLINED;
            }
        }

        private void setIf(boolean condition, int flag) {
            if (condition) {
                flags |= flag;
            }
        }

        private void checkHolder(Card card, Terminal terminal) {
            int rules = card.objects.first(Tag.RULES);
            if (rules == NONE) {
                return;
            }
            int limit = card.objects.pairOf(rules);
            for (int at = 2; at < card.objects.lengthOf(rules); at += 2) {
                int rule = card.objects.byteOf(rules, at);
                if (!isCase(card.objects.byteOf(rules, at + 1), limit, terminal)) {
                    continue;
                }
                if (isMet(rule & ~ELSE_NEXT, card, terminal)) {
                    return;
                }
                if ((rule & ELSE_NEXT) == 0) {
                    break;
                }
            }
            flags |= HOLDER_FAILED;
        }

        private boolean isCase(int which, int limit, Terminal terminal) {
            switch (which) {
                case 0: return true;
                case 1: return amount < limit;
                case 2: return amount > limit;
                case 3: return terminal.hasPad();
                default: return false;
            }
        }

        private boolean isMet(int rule, Card card, Terminal terminal) {
            switch (rule) {
                case RULE_MET: return true;
                case RULE_PIN: return isPinRight(card, terminal);
                case RULE_FAIL: return false;
                default:
                    flags |= UNKNOWN_RULE;
                    return false;
            }
        }

        private boolean isPinRight(Card card, Terminal terminal) {
            if (!terminal.hasPad() || typed == NONE) {
                flags |= PIN_NOT_ASKED;
                return false;
            }
            if (card.isBlocked()) {
                flags |= NO_TRIES;
                return false;
            }
            return card.acceptsPin(typed);
        }

        private void weighRisks(Card card, Terminal terminal) {
            setIf(amount >= terminal.floor(), ABOVE_FLOOR);
            if (card.lower != NONE && card.upper != NONE) {
                setIf(card.isRunAtLower(), RUN_LOWER);
                setIf(card.isRunAtUpper(), RUN_UPPER);
            }
        }

        private int findWish(Card card, Terminal terminal) {
            if (hasFlagIn(card.maskDenial | terminal.maskDenial())) {
                return NO;
            }
            if (terminal.isConnected()) {
                return hasFlagIn(card.maskOnline | terminal.maskOnline()) ? ASK : YES;
            }
            return hasFlagIn(card.maskDefault | terminal.maskDefault()) ? NO : YES;
        }

        private boolean hasFlagIn(int mask) {
            return (flags & mask) != 0;
        }

        private void gatherData(Card card, Terminal terminal) {
            data.clear();
            int list = card.objects.first(Tag.LIST);
            int at = 0;
            for (int n = 0; n < Card.MOST_DEMANDS && at < card.objects.lengthOf(list); n++) {
                int tag = card.objects.tagOf(list, at);
                int sizeAt = at + Tag.bytesOf(tag);
                addNumber(demanded(tag, terminal), card.objects.byteOf(list, sizeAt));
                at = sizeAt + 1;
            }
        }

        private int demanded(int tag, Terminal terminal) {
            switch (tag) {
                case Tag.AMOUNT: return amount;
                case Tag.FLAGS: return flags;
                case Tag.DAY: return terminal.day();
                case Tag.NUMBER: return number;
                default: return 0;
            }
        }

        private void addNumber(int demand, int size) {
            for (int left = size - 1; left >= 0; left--) {
                // A shift by 32 or more would not give zeros: Java takes it modulo 32.
                data.add(left < 4 ? (demand >>> (8 * left)) & LARGEST_BYTE : 0);
            }
        }

        private void askHost(Card card, Terminal terminal, Host host) {
            if (terminal.isConnected() && fate != FATE_REQUEST_LOST) {
                code = host.judge(card.accountNumber, card.counter, data, firstCryptogram, amount);
            }
            if (fate == FATE_CARD_OUT) {
                outcome = REMOVED;
                return;
            }
            secondAnswer = hasReply(terminal) ? answerReply(card, host) : answerAlone(card, terminal);
            secondCryptogram = Mac.cryptogram(card.key, secondAnswer, card.counter, data);
            outcome = secondAnswer == YES ? APPROVED : DECLINED;
        }

        private boolean hasReply(Terminal terminal) {
            return terminal.isConnected() && fate != FATE_REQUEST_LOST && fate != FATE_REPLY_LOST;
        }

        private int answerReply(Card card, Host host) {
            int seal = host.sealOf(card.accountNumber, code, firstCryptogram);
            if (!card.acceptsReply(code, firstCryptogram, seal)) {
                flags |= WRONG_SEAL;
                return NO;
            }
            return code == Host.BOOKED ? YES : NO;
        }

        private int answerAlone(Card card, Terminal terminal) {
            if (hasFlagIn(card.maskDefault | terminal.maskDefault())
                    || card.isBlocked() || card.isRunAtUpper()) {
                return NO;
            }
            card.run++;
            return YES;
        }

        boolean needsReversal(Terminal terminal) {
            if (firstAnswer != ASK || !terminal.isConnected()) {
                return false;
            }
            return !hasReply(terminal) || (code == Host.BOOKED && outcome != APPROVED);
        }

        int tell(int what) {
            switch (what) {
                case 0: return outcome;
                case 1: return flags;
                case 2: return wish;
                case 3: return firstAnswer;
                case 4: return firstCryptogram;
                case 5: return secondAnswer;
                case 6: return secondCryptogram;
                case 7: return code;
                case 8: return number;
                default: return REFUSED;
            }
        }
    }
}
