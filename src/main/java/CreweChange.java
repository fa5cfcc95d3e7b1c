import java.util.Arrays;

/** Trains and boats that are late by chances, the changes between them, and what to do so that one is there. */
public final class CreweChange {
    public static final int BAD = -1000000001, NO = -1000000002, FULL = -1000000003, NONE = -1000000005, NOTHING = -1000000011, KIND = -1000000012, INDEX = -1000000013, SIZE = -1000000014;

    private static final int MOST_STOPS = 6, MOST_TRAINS = 12, MOST_TEXTS = 14, MOST_GUESTS = 10;
    private static final int MOST_PLANNED = 6, MOST_BYTES = 96, MOST_WAITING = 60, MOST_RIDES = 30;
    private static final int SHEETS = 4, MOST_CELLS = 24, SLOTS = 5, STEPS = 4, KINDS = 6;
    private static final int TRAIN = 0, LATE = 1, BOAT = 2, HANGS = 3, TIDE = 4, LAST = 5;
    private static final int[] ABOVE = {-1, TRAIN, TRAIN, LATE, BOAT, TRAIN};
    private static final int WAITS_KEY = 0, TIDE_KEY = 1, WALK_KEY = 2, KEYS = 3;
    private static final int MOST_WALK = 99, MOST_WAITS = 30, MOST_TIDE = 120;
    private static final int LAST_LEAVE = 1439, LAST_MINUTE = 2879, LAST_NOON = 2999, LATEST_MINUTE = 1469;
    private static final int NOT_THERE = 2880, CERTAIN = 10000;

    /** No train can be taken later: the last to leave, the highest tide, the longest wait. */
    private static final int LAST_TAKEN = LAST_LEAVE + MOST_TIDE + MOST_WAITS;
    /** Every train counts for the minutes from the one at which it goes to the last at which it waits. */
    private static final int MOST_MINUTES = MOST_TRAINS * (MOST_WAITS + 1);
    /** A ride takes a train at most once for each minute that counts: far below this. */
    private static final int RIDE_BOUND = 100000;

    private static final int MEANS = 0, SURES = 1, CHEAPS = 2;
    private static final int IMPOSSIBLE = Integer.MAX_VALUE;

    private static final int HOLDS_NOTHING = 0, HOLDS_TRAIN = 1, HOLDS_SHEET = 2, HOLDS_NUMBER = 3;
    private static final int MISSING = -1, SHORTS = 0, FLOATS = 1, MOST_FLOAT = 99999;

    private final World now = new World();
    private final World kept = new World();
    private boolean keeps;
    private int stamps;
    private final Timetable table = new Timetable();
    private final Chart means = new Chart(MEANS);
    private final Chart sures = new Chart(SURES);
    private final Chart cheaps = new Chart(CHEAPS);
    private int ridden;
    private final Tape tape = new Tape();
    private final Sheet[] sheets = new Sheet[SHEETS];
    private final Slot[] slots = new Slot[SLOTS];
    private int waiting;
    private final int[] waitingRow = new int[MOST_WAITING];

    public CreweChange() {
        for (int i = 0; i < SHEETS; i++) {
            sheets[i] = new Sheet();
        }
        for (int i = 0; i < SLOTS; i++) {
            slots[i] = new Slot();
        }
    }

    // ---- stops, trains

    public int stop(int walk) {
        if (!within(walk, 0, MOST_WALK)) {
            return BAD;
        }
        if (now.stops >= MOST_STOPS) {
            return FULL;
        }
        now.walks[now.stops] = walk;
        now.stops++;
        stampAnew();
        return now.stops - 1;
    }

    public int walk(int stop) {
        if (!now.isStop(stop)) {
            return BAD;
        }
        table.refresh(now);
        return table.walks[stop];
    }

    public int train(int kind, int ends, int leave, int takes) {
        int from = ends / 10;
        int to = ends % 10;
        boolean stands = isKind(kind) && now.isStop(from) && now.isStop(to) && from != to;
        if (!stands || !isLeave(leave) || !isTakes(takes)) {
            return BAD;
        }
        if (now.trains >= MOST_TRAINS) {
            return FULL;
        }
        Train made = now.train[now.trains];
        made.begin(kind, from, to);
        made.leave = leave;
        made.takes = takes;
        now.trains++;
        stampAnew();
        return now.trains - 1;
    }

    public int told(int train, int what) {
        if (!now.isTrain(train) || !within(what, 0, 13 + STEPS)) {
            return BAD;
        }
        Train asked = now.train[train];
        if (what >= 14) {
            table.refresh(now);
            return table.there(train, what - 14);
        }
        if (what >= 10) {
            return asked.chance[what - 10];
        }
        if (what == 7 || what == 8) {
            table.refresh(now);
            return what == 7 ? table.goes[train] : table.waits[train];
        }
        return asked.figure(what);
    }

    public int as(int train, int kind) {
        if (!now.isTrain(train) || !isKind(kind)) {
            return BAD;
        }
        return isUnder(now.train[train].kind, kind) ? now.train[train].leave : KIND;
    }

    public int turns(int train, int kind) {
        if (!now.isTrain(train) || !isKind(kind)) {
            return BAD;
        }
        int was = now.train[train].kind;
        now.train[train].kind = kind;
        stampAnew();
        return was;
    }

    public int set(int train, int what, int v) {
        if (!now.isTrain(train)) {
            return BAD;
        }
        Train changed = now.train[train];
        int was;
        if (what == 0 && within(v, 0, 999)) {
            was = changed.price;
            changed.price = v;
        } else if (what == 1 && isLeave(v)) {
            was = changed.leave;
            changed.leave = v;
        } else if (what == 2 && isTakes(v)) {
            was = changed.takes;
            changed.takes = v;
        } else {
            return BAD;
        }
        stampAnew();
        return was;
    }

    public int chances(int train, int one, int two, int three) {
        if (!now.isTrain(train) || !areChances(one, two, three)) {
            return BAD;
        }
        return putChances(train, one, two, three);
    }

    public int hangs(int train, int host) {
        if (!now.isTrain(train) || (host != NONE && !within(host, 0, train - 1))) {
            return BAD;
        }
        int was = now.train[train].host;
        now.train[train].host = host;
        stampAnew();
        return was;
    }

    public int day(int v) {
        if (!within(v, 0, 999)) {
            return BAD;
        }
        int was = now.day;
        now.day = v;
        stampAnew();
        return was;
    }

    // ---- changes, plans

    public int makes(int a, int b) {
        if (!areTwoTrains(a, b)) {
            return BAD;
        }
        table.refresh(now);
        return table.joins(a, b) ? table.madeOf(a, b, 0) : NO;
    }

    public int never(int what) {
        if (!within(what, 0, 1)) {
            return BAD;
        }
        table.refresh(now);
        int many = 0;
        int first = NONE;
        for (int a = 0; a < now.trains; a++) {
            for (int b = 0; b < now.trains; b++) {
                if (a != b && table.joins(a, b) && table.madeOf(a, b, 0) == 0) {
                    many++;
                    first = first == NONE ? 100 * a + b : first;
                }
            }
        }
        return what == 0 ? many : first;
    }

    public int mends(int a, int b, int v) {
        if (!areTwoTrains(a, b) || !within(v, 1, CERTAIN)) {
            return BAD;
        }
        table.refresh(now);
        return table.joins(a, b) ? table.mendedBy(a, b, v) : NO;
    }

    public int add(int train) {
        if (!now.isTrain(train)) {
            return BAD;
        }
        if (now.planned >= MOST_PLANNED) {
            return FULL;
        }
        now.plan[now.planned] = train;
        now.planned++;
        return now.planned;
    }

    public int clear() {
        int had = now.planned;
        now.planned = 0;
        return had;
    }

    public int judge() {
        return now.brokenPlace();
    }

    public long plan(int what) {
        if (!within(what, 0, 1)) {
            return BAD;
        }
        if (now.brokenPlace() != NONE) {
            return NO;
        }
        if (now.planned == 0) {
            return what == 0 ? 1 : 0;
        }
        table.refresh(now);
        return table.planOf(now, what == 1);
    }

    // ---- what to do

    public int aim(int what, int v) {
        int was;
        if (what == 0 && now.isStop(v)) {
            was = now.goal;
            now.goal = v;
        } else if (what == 1 && within(v, 0, LAST_NOON)) {
            was = now.noon;
            now.noon = v;
        } else {
            return BAD;
        }
        stampAnew();
        return was;
    }

    public int mean(int stop, int minute) {
        return isPoint(stop, minute) ? means.drawnFor(table, now).worthAt(table, stop, minute) : BAD;
    }

    public int taken(int stop, int minute) {
        return isPoint(stop, minute) ? means.drawnFor(table, now).bestTrain(table, stop, minute) : BAD;
    }

    public int sure(int stop, int minute) {
        return isPoint(stop, minute) ? sures.drawnFor(table, now).worthAt(table, stop, minute) : BAD;
    }

    public int cheap(int stop, int minute) {
        if (!isPoint(stop, minute)) {
            return BAD;
        }
        int worth = cheaps.drawnFor(table, now).worthAt(table, stop, minute);
        return worth == IMPOSSIBLE ? NONE : worth;
    }

    public int latest(int stop, int q) {
        if (!now.isStop(stop) || !within(q, 0, CERTAIN)) {
            return BAD;
        }
        Chart chart = sures.drawnFor(table, now);
        for (int minute = LATEST_MINUTE; minute >= 0; minute--) {
            if (chart.worthAt(table, stop, minute) >= q) {
                return minute;
            }
        }
        return NONE;
    }

    // ---- texts

    public int feed(int a, int b, int c) {
        if (tape.size + 12 > MOST_BYTES) {
            return FULL;
        }
        tape.append(a);
        tape.append(b);
        tape.append(c);
        return tape.size;
    }

    public int trim(int n) {
        if (!within(n, 0, tape.size)) {
            return BAD;
        }
        tape.size = n;
        return n;
    }

    public int text() {
        Text read = tape.parse();
        tape.size = 0;
        if (read == null) {
            return -100 - tape.faultPlace();
        }
        if (now.texts >= MOST_TEXTS) {
            return FULL;
        }
        now.text[now.texts] = read;
        now.texts++;
        stampAnew();
        return now.texts - 1;
    }

    public int textTold(int text, int what) {
        if (!within(text, 0, now.texts - 1) || !within(what, 0, 1) || now.text[text] == null) {
            return BAD;
        }
        return what == 0 ? now.text[text].key : now.text[text].leaves;
    }

    public int why(int key) {
        return within(key, 0, KEYS - 1) ? now.countingText(key) : BAD;
    }

    // ---- guests, rides

    public int guest(int stop, int minute) {
        if (!now.isStop(stop) || !isLeave(minute)) {
            return BAD;
        }
        if (now.guests >= MOST_GUESTS) {
            return FULL;
        }
        now.guestStop[now.guests] = stop;
        now.guestMinute[now.guests] = minute;
        now.guests++;
        return now.guests - 1;
    }

    public int part() {
        int were = now.guests;
        now.guests = 0;
        return were;
    }

    public int gather(int what) {
        if (!within(what, 0, 1)) {
            return BAD;
        }
        Chart chart = means.drawnFor(table, now);
        int who = NONE;
        int greatest = NONE;
        for (int i = 0; i < now.guests; i++) {
            int worth = chart.worthAt(table, now.guestStop[i], now.guestMinute[i]);
            if (who == NONE || worth > greatest) {
                who = i;
                greatest = worth;
            }
        }
        return what == 0 ? greatest : who;
    }

    public int ride(int stop, int minute) {
        if (!isPoint(stop, minute)) {
            return BAD;
        }
        means.drawnFor(table, now);
        return rideOn(now, stop, minute);
    }

    public int seed(int v) {
        int was = now.z;
        now.z = v;
        return was;
    }

    // ---- sheets, slots

    public int sheet(int sheet, int sort, int n) {
        if (!isSheet(sheet) || !within(sort, MISSING, FLOATS)) {
            return BAD;
        }
        if (sort == MISSING) {
            sheets[sheet].begin(MISSING, 0);
            return 0;
        }
        if (n > MOST_CELLS) {
            return BAD;
        }
        if (n < 0) {
            return SIZE;
        }
        sheets[sheet].begin(sort, n);
        return n;
    }

    public int mark(int sheet, int place, int v) {
        if (!isSheet(sheet)) {
            return BAD;
        }
        Sheet marked = sheets[sheet];
        if (marked.sort == MISSING) {
            return NOTHING;
        }
        if (!marked.hasPlace(place)) {
            return INDEX;
        }
        if (marked.sort == SHORTS) {
            if (v == NONE) {
                return KIND;
            }
            marked.cells[place] = (short) v;
            return 1;
        }
        if (v != NONE && !within(v, -MOST_FLOAT, MOST_FLOAT)) {
            return BAD;
        }
        marked.cells[place] = v;
        return 1;
    }

    public int pour(int sheet, int train) {
        if (!isSheet(sheet) || !now.isTrain(train)) {
            return BAD;
        }
        Sheet poured = sheets[sheet];
        if (poured.sort == MISSING) {
            return NOTHING;
        }
        if (poured.size < STEPS - 1) {
            return INDEX;
        }
        int one = poured.cells[0];
        int two = poured.cells[1];
        int three = poured.cells[2];
        if (one == NONE || two == NONE || three == NONE) {
            return KIND;
        }
        return areChances(one, two, three) ? putChances(train, one, two, three) : BAD;
    }

    public int reads(int sheet, int train) {
        if (!isSheet(sheet) || !now.isTrain(train)) {
            return BAD;
        }
        Sheet read = sheets[sheet];
        if (read.sort == MISSING) {
            return NOTHING;
        }
        table.refresh(now);
        for (int place = 0; place < read.size; place++) {
            int cell = read.cells[place];
            if (cell != NONE && (place >= STEPS || cell != table.there(train, place))) {
                return place;
            }
        }
        return NONE;
    }

    public int copy(int from, int place, int to, int at, int many) {
        if (!isSheet(from) || !isSheet(to)) {
            return BAD;
        }
        Sheet source = sheets[from];
        Sheet target = sheets[to];
        if (source.sort == MISSING || target.sort == MISSING) {
            return NOTHING;
        }
        if (source.sort != target.sort) {
            return KIND;
        }
        if (!source.hasRun(place, many) || !target.hasRun(at, many)) {
            return INDEX;
        }
        System.arraycopy(source.cells, place, target.cells, at, many);
        return many;
    }

    public int lay(int slot, int thing, int k) {
        if (!isSlot(slot) || !within(thing, HOLDS_NOTHING, HOLDS_NUMBER)) {
            return BAD;
        }
        if ((thing == HOLDS_TRAIN && !now.isTrain(k)) || (thing == HOLDS_SHEET && !isSheet(k))) {
            return BAD;
        }
        if (thing == HOLDS_SHEET && sheets[k].sort == MISSING) {
            return NOTHING;
        }
        Slot laid = slots[slot];
        int held = laid.thing;
        laid.thing = thing;
        if (thing == HOLDS_TRAIN) {
            laid.train.takeFrom(now.train[k]);
        } else if (thing == HOLDS_SHEET) {
            laid.sheet.takeFrom(sheets[k]);
        } else {
            laid.number = k;
        }
        return held;
    }

    public int ask(int slot, int kind) {
        if (!isSlot(slot) || !isKind(kind)) {
            return BAD;
        }
        Slot asked = slots[slot];
        if (asked.thing == HOLDS_NOTHING) {
            return NOTHING;
        }
        if (asked.thing != HOLDS_TRAIN || !isUnder(asked.train.kind, kind)) {
            return KIND;
        }
        return asked.train.fare();
    }

    public int item(int slot, int place) {
        if (!isSlot(slot)) {
            return BAD;
        }
        Slot asked = slots[slot];
        if (asked.thing == HOLDS_NOTHING) {
            return NOTHING;
        }
        if (asked.thing != HOLDS_SHEET) {
            return KIND;
        }
        if (!asked.sheet.hasPlace(place)) {
            return INDEX;
        }
        int cell = asked.sheet.cells[place];
        return cell == NONE ? KIND : cell;
    }

    public int rest(int slot, int n) {
        if (!isSlot(slot)) {
            return BAD;
        }
        Slot asked = slots[slot];
        if (asked.thing == HOLDS_NOTHING) {
            return NOTHING;
        }
        if (asked.thing != HOLDS_NUMBER) {
            return KIND;
        }
        return n == 0 ? NO : asked.number % n;
    }

    // ---- rows, images

    public int tell(int v) {
        if (waiting >= MOST_WAITING) {
            return FULL;
        }
        waitingRow[waiting] = v;
        waiting++;
        return waiting;
    }

    public int check(int n) {
        int told = waiting;
        waiting = 0;
        if (!within(n, 1, MOST_RIDES)) {
            return BAD;
        }
        if (!keeps || kept.guests == 0) {
            return NO;
        }
        means.drawnFor(table, kept);
        int z = kept.z;
        int right = rightAhead(n, told);
        kept.z = z;
        return right == told && right == 2 * n ? 0 : 1 + right;
    }

    public int keep() {
        kept.takeFrom(now);
        keeps = true;
        return kept.trains;
    }

    public int back() {
        if (!keeps) {
            return NO;
        }
        now.takeFrom(kept);
        return now.trains;
    }

    public int count(int what) {
        switch (what) {
            case 0: return now.stops;
            case 1: return now.trains;
            case 2: return now.texts;
            case 3: return now.planned;
            case 4: return now.guests;
            case 5: return now.goal;
            case 6: return now.noon;
            case 7: return now.day;
            case 8: return waiting;
            case 9: return tape.size;
            case 10: return now.z;
            default: return BAD;
        }
    }

    // ---- what several calls share

    private static boolean within(int v, int least, int most) {
        return v >= least && v <= most;
    }

    private static int heldWithin(int v, int least, int most) {
        return Math.max(least, Math.min(most, v));
    }

    private static boolean isKind(int kind) {
        return within(kind, 0, KINDS - 1);
    }

    private static boolean isLeave(int minute) {
        return within(minute, 0, LAST_LEAVE);
    }

    private static boolean isTakes(int minutes) {
        return within(minutes, 1, 600);
    }

    private static boolean isSheet(int sheet) {
        return within(sheet, 0, SHEETS - 1);
    }

    private static boolean isSlot(int slot) {
        return within(slot, 0, SLOTS - 1);
    }

    /** Whether a kind is another one, or stands under it. */
    private static boolean isUnder(int kind, int other) {
        int above = kind;
        for (int i = 0; i < KINDS && isKind(above); i++) {
            if (above == other) {
                return true;
            }
            above = ABOVE[above];
        }
        return false;
    }

    /** Each is looked at by itself first, so that their sum can't wrap. */
    private static boolean areChances(int one, int two, int three) {
        return within(one, 0, 100) && within(two, 0, 100) && within(three, 0, 100) && one + two + three <= 100;
    }

    private int putChances(int train, int one, int two, int three) {
        int[] chance = now.train[train].chance;
        chance[0] = 100 - one - two - three;
        chance[1] = one;
        chance[2] = two;
        chance[3] = three;
        stampAnew();
        return chance[0];
    }

    private boolean areTwoTrains(int a, int b) {
        return now.isTrain(a) && now.isTrain(b) && a != b;
    }

    private boolean isPoint(int stop, int minute) {
        return now.isStop(stop) && within(minute, 0, LAST_MINUTE);
    }

    /** Worlds of one stamp have the same stops, trains, texts, day, goal and noon: what is worked out for one holds for the other. */
    private void stampAnew() {
        stamps++;
        now.stamp = stamps;
    }

    /** The minute at which a ride in the world that means is drawn for ends; how many trains it took stays in ridden. */
    private int rideOn(World world, int fromStop, int fromMinute) {
        int stop = fromStop;
        int minute = fromMinute;
        ridden = 0;
        for (int i = 0; i < RIDE_BOUND && stop != world.goal; i++) {
            int train = means.bestTrain(table, stop, minute);
            if (train == NONE) {
                return NOT_THERE;
            }
            int step = table.stepBy(train, world.draw() % 100);
            minute = table.arrival(train, step, minute);
            stop = table.to[train];
            ridden++;
        }
        return minute;
    }

    /** How many of the numbers that waited are the rides told, up to the first that is not. */
    private int rightAhead(int rides, int told) {
        int who = 0;
        for (int i = 0; i < rides; i++) {
            int end = rideOn(kept, kept.guestStop[who], kept.guestMinute[who]);
            if (2 * i >= told || waitingRow[2 * i] != end) {
                return 2 * i;
            }
            if (2 * i + 1 >= told || waitingRow[2 * i + 1] != ridden) {
                return 2 * i + 1;
            }
            who = who + 1 < kept.guests ? who + 1 : 0;
        }
        return 2 * rides;
    }

    /** A train as it is told, whatever its kind. */
    private static final class Train {
        private int kind;
        private int from;
        private int to;
        private int leave;
        private int takes;
        private int price;
        private int host = NONE;
        private final int[] chance = new int[STEPS];

        /** The rows are used again after back(), so what an earlier train left must go. */
        void begin(int newKind, int newFrom, int newTo) {
            kind = newKind;
            from = newFrom;
            to = newTo;
            price = 0;
            host = NONE;
            Arrays.fill(chance, 0);
            chance[0] = 100;
        }

        void takeFrom(Train other) {
            kind = other.kind;
            from = other.from;
            to = other.to;
            leave = other.leave;
            takes = other.takes;
            price = other.price;
            host = other.host;
            System.arraycopy(other.chance, 0, chance, 0, STEPS);
        }

        int figure(int what) {
            switch (what) {
                case 0: return kind;
                case 1: return from;
                case 2: return to;
                case 3: return leave;
                case 4: return takes;
                case 5: return price;
                case 6: return host;
                default: return fare();
            }
        }

        int fare() {
            switch (kind) {
                case LATE:
                case HANGS: return price / 2;
                case BOAT: return price + 10;
                case TIDE: return 2 * (price + 10);
                default: return price;
            }
        }

        /** What it waits without a text. */
        int usualWait() {
            switch (kind) {
                case BOAT: return 5;
                case TIDE: return 10;
                case LAST: return 10;
                default: return 0;
            }
        }

        int delayBy(int step, int delayOfHost) {
            switch (kind) {
                case LATE: return 7 * step;
                case HANGS: return 7 * step + delayOfHost / 2;
                case BOAT:
                case TIDE: return 0;
                default: return 5 * step;
            }
        }
    }

    /** All that an image keeps. */
    private static final class World {
        private int stamp;
        private int stops;
        private final int[] walks = new int[MOST_STOPS];
        private int trains;
        private final Train[] train = new Train[MOST_TRAINS];
        private int texts;
        private final Text[] text = new Text[MOST_TEXTS];
        private int planned;
        private final int[] plan = new int[MOST_PLANNED];
        private int goal;
        private int noon = 720;
        private int day;
        private int guests;
        private final int[] guestStop = new int[MOST_GUESTS];
        private final int[] guestMinute = new int[MOST_GUESTS];
        private int z = 1;

        World() {
            for (int i = 0; i < MOST_TRAINS; i++) {
                train[i] = new Train();
            }
        }

        boolean isStop(int number) {
            return within(number, 0, stops - 1);
        }

        boolean isTrain(int number) {
            return within(number, 0, trains - 1);
        }

        void takeFrom(World other) {
            stamp = other.stamp;
            stops = other.stops;
            System.arraycopy(other.walks, 0, walks, 0, MOST_STOPS);
            trains = other.trains;
            for (int i = 0; i < trains; i++) {
                train[i].takeFrom(other.train[i]);
            }
            texts = other.texts;
            for (int i = 0; i < texts; i++) {
                text[i] = other.text[i];
            }
            planned = other.planned;
            System.arraycopy(other.plan, 0, plan, 0, MOST_PLANNED);
            goal = other.goal;
            noon = other.noon;
            day = other.day;
            guests = other.guests;
            System.arraycopy(other.guestStop, 0, guestStop, 0, MOST_GUESTS);
            System.arraycopy(other.guestMinute, 0, guestMinute, 0, MOST_GUESTS);
            z = other.z;
        }

        int countingText(int key) {
            for (int i = texts - 1; i >= 0; i--) {
                if (text[i] != null && text[i].key == key) {
                    return i;
                }
            }
            return NONE;
        }

        /** The text that counts for a key, or null. */
        Text law(int key) {
            int number = countingText(key);
            return number == NONE ? null : text[number];
        }

        /** The first place of the plan whose train is not from where the one ahead goes to. */
        int brokenPlace() {
            for (int i = 1; i < planned; i++) {
                if (train[plan[i]].from != train[plan[i - 1]].to) {
                    return i;
                }
            }
            return NONE;
        }

        int draw() {
            z = z * 1103515245 + 12345;
            return z >>> 8;
        }
    }

    /** When the trains of a world go, how long they wait, and the changes: worked out once for each stamp. */
    private static final class Timetable {
        private int stamp = -1;
        private int goal;
        private int noon;
        private int trains;
        private final int[] walks = new int[MOST_STOPS];
        private final int[] from = new int[MOST_TRAINS];
        private final int[] to = new int[MOST_TRAINS];
        private final int[] takes = new int[MOST_TRAINS];
        private final int[] fares = new int[MOST_TRAINS];
        private final int[] goes = new int[MOST_TRAINS];
        private final int[] waits = new int[MOST_TRAINS];
        private final int[] chance = new int[MOST_TRAINS * STEPS];
        private final int[] later = new int[MOST_TRAINS * STEPS];
        private int minutes;
        private final int[] minuteAt = new int[MOST_MINUTES + 1];
        private final int[] placeOf = new int[LAST_TAKEN + 1];
        private final int[] stack = new int[MOST_BYTES];
        private long[] ways = new long[STEPS];
        private long[] waysOn = new long[STEPS];

        void refresh(World world) {
            if (stamp == world.stamp) {
                return;
            }
            stamp = world.stamp;
            goal = world.goal;
            noon = world.noon;
            trains = world.trains;
            readWalks(world);
            readTrains(world);
            findMinutes();
        }

        private void readWalks(World world) {
            Text law = world.law(WALK_KEY);
            for (int i = 0; i < world.stops; i++) {
                int walk = law == null ? world.walks[i] : law.worth(stack, i, world.walks[i], world.day);
                walks[i] = heldWithin(walk, 0, MOST_WALK);
            }
        }

        private void readTrains(World world) {
            Text waitsLaw = world.law(WAITS_KEY);
            Text tideLaw = world.law(TIDE_KEY);
            for (int i = 0; i < trains; i++) {
                Train read = world.train[i];
                from[i] = read.from;
                to[i] = read.to;
                takes[i] = read.takes;
                fares[i] = read.fare();
                int wait = waitsLaw == null ? read.usualWait() : waitsLaw.worth(stack, read.kind, i, world.day);
                waits[i] = heldWithin(wait, 0, MOST_WAITS);
                int tide = tideLaw == null || read.kind != TIDE ? 0 : tideLaw.worth(stack, i, world.day, 0);
                goes[i] = read.leave + heldWithin(tide, 0, MOST_TIDE);
                readSteps(i, read);
            }
        }

        /** A host has a lesser number, so it has been read by then. */
        private void readSteps(int number, Train read) {
            for (int step = 0; step < STEPS; step++) {
                int delayOfHost = 0;
                if (within(read.host, 0, number - 1)) {
                    delayOfHost = later[read.host * STEPS + step] - goes[read.host];
                }
                chance[number * STEPS + step] = read.chance[step];
                later[number * STEPS + step] = goes[number] + read.delayBy(step, delayOfHost);
            }
        }

        /**
         * What is best at a stop can only change behind a minute from the one at which a train goes to the
         * last at which it waits: those minutes count, the last of them as place 1, and any other minute is
         * as the next that counts (place 0: there is none).
         */
        private void findMinutes() {
            Arrays.fill(placeOf, 0);
            for (int i = 0; i < trains; i++) {
                for (int minute = goes[i]; minute <= lastMinute(i) && within(minute, 0, LAST_TAKEN); minute++) {
                    placeOf[minute] = 1;
                }
            }
            minutes = 0;
            for (int minute = LAST_TAKEN; minute >= 0; minute--) {
                if (placeOf[minute] == 1 && minutes < MOST_MINUTES) {
                    minutes++;
                    minuteAt[minutes] = minute;
                }
                placeOf[minute] = minutes;
            }
        }

        int lastMinute(int train) {
            return goes[train] + waits[train];
        }

        int there(int train, int step) {
            return later[train * STEPS + step] + takes[train];
        }

        /** When one is at the stop to which a train goes, ready for the next one. */
        int arrival(int train, int step, int minute) {
            int left = Math.max(later[train * STEPS + step], minute);
            int walk = to[train] == goal ? 0 : walks[to[train]];
            return left + takes[train] + walk;
        }

        /** The first step by which the chances together are above a rest. */
        int stepBy(int train, int rest) {
            int together = 0;
            for (int step = 0; step < STEPS - 1; step++) {
                together += chance[train * STEPS + step];
                if (together > rest) {
                    return step;
                }
            }
            return STEPS - 1;
        }

        boolean joins(int a, int b) {
            return from[b] == to[a];
        }

        /** By how many minutes b is gone when a and the walk are done; 0 or less: the change is made. */
        private int missedBy(int a, int stepOfA, int b, int stepOfB) {
            return there(a, stepOfA) + walks[to[a]] - later[b * STEPS + stepOfB] - waits[b];
        }

        /** What is made of a change, if b left so many minutes later. */
        int madeOf(int a, int b, int more) {
            int made = 0;
            for (int s = 0; s < STEPS; s++) {
                for (int r = 0; r < STEPS; r++) {
                    if (missedBy(a, s, b, r) <= more) {
                        made += chance[a * STEPS + s] * chance[b * STEPS + r];
                    }
                }
            }
            return made;
        }

        /** More is made only at a minute by which some pair of steps is missed: no other is tried. */
        int mendedBy(int a, int b, int wanted) {
            int least = NONE;
            for (int pair = 0; pair < STEPS * STEPS; pair++) {
                int more = Math.max(0, missedBy(a, pair / STEPS, b, pair % STEPS));
                boolean less = least == NONE || more < least;
                if (more <= 999 && less && madeOf(a, b, more) >= wanted) {
                    least = more;
                }
            }
            return least;
        }

        /** Of a plan that holds and has trains: made, or the minutes. */
        long planOf(World world, boolean asMinutes) {
            int train = world.plan[0];
            for (int step = 0; step < STEPS; step++) {
                ways[step] = chance[train * STEPS + step];
            }
            for (int i = 1; i < world.planned; i++) {
                goOn(train, world.plan[i]);
                train = world.plan[i];
            }
            long together = 0;
            for (int step = 0; step < STEPS; step++) {
                together += asMinutes ? ways[step] * there(train, step) : ways[step];
            }
            return together;
        }

        private void goOn(int a, int b) {
            for (int r = 0; r < STEPS; r++) {
                long together = 0;
                for (int s = 0; s < STEPS; s++) {
                    together += missedBy(a, s, b, r) <= 0 ? ways[s] : 0;
                }
                waysOn[r] = together * chance[b * STEPS + r];
            }
            long[] done = ways;
            ways = waysOn;
            waysOn = done;
        }
    }

    /** What it is worth to be at a stop at a minute, by the mean, the surest or the cheapest. */
    private static final class Chart {
        private static final int WIDTH = MOST_MINUTES + 1;
        private final int sort;
        private final int[] row = new int[MOST_STOPS * WIDTH];
        private int stamp = -1;
        private int bestWorth;

        Chart(int sort) {
            this.sort = sort;
        }

        /** This chart, after it and the timetable have been brought to what a world is now. */
        Chart drawnFor(Timetable table, World world) {
            table.refresh(world);
            if (stamp != table.stamp) {
                stamp = table.stamp;
                fillRow(table);
            }
            return this;
        }

        /** From the last minute on: a train takes a minute at least, so what lies behind it is known by then. */
        private void fillRow(Timetable table) {
            for (int stop = 0; stop < MOST_STOPS; stop++) {
                row[stop * WIDTH] = worthOfNone();
            }
            for (int place = 1; place <= table.minutes; place++) {
                int minute = table.minuteAt[place];
                for (int stop = 0; stop < MOST_STOPS; stop++) {
                    row[stop * WIDTH + place] = row[stop * WIDTH + place - 1];
                }
                for (int i = 0; i < table.trains; i++) {
                    if (within(minute, table.goes[i], table.lastMinute(i))) {
                        bestTrain(table, table.from[i], minute);
                        row[table.from[i] * WIDTH + place] = bestWorth;
                    }
                }
            }
        }

        int worthAt(Timetable table, int stop, int minute) {
            if (stop == table.goal) {
                return worthAtGoal(minute, table.noon);
            }
            if (!within(minute, 0, LAST_TAKEN)) {
                return worthOfNone();
            }
            return row[stop * WIDTH + table.placeOf[minute]];
        }

        private int worthAtGoal(int minute, int noon) {
            boolean soon = minute <= noon;
            switch (sort) {
                case SURES: return soon ? CERTAIN : 0;
                case CHEAPS: return soon ? 0 : IMPOSSIBLE;
                default: return 100 * minute;
            }
        }

        private int worthOfNone() {
            switch (sort) {
                case SURES: return 0;
                case CHEAPS: return IMPOSSIBLE;
                default: return 100 * NOT_THERE;
            }
        }

        /** The train to take at a stop and a minute, or NONE; what it is worth stays in bestWorth. */
        int bestTrain(Timetable table, int stop, int minute) {
            int best = NONE;
            bestWorth = worthOfNone();
            for (int i = 0; i < table.trains && stop != table.goal; i++) {
                if (table.from[i] == stop && table.lastMinute(i) >= minute) {
                    int worth = sort == CHEAPS ? dearestBehind(table, i, minute) : meanBehind(table, i, minute);
                    if (best == NONE || isBetter(worth, bestWorth)) {
                        best = i;
                        bestWorth = worth;
                    }
                }
            }
            return best;
        }

        private boolean isBetter(int worth, int other) {
            return sort == SURES ? worth > other : worth < other;
        }

        private int meanBehind(Timetable table, int train, int minute) {
            int together = 0;
            for (int step = 0; step < STEPS; step++) {
                int chance = table.chance[train * STEPS + step];
                if (chance != 0) {
                    together += chance * worthAt(table, table.to[train], table.arrival(train, step, minute));
                }
            }
            return together / 100;
        }

        private int dearestBehind(Timetable table, int train, int minute) {
            int dearest = 0;
            for (int step = 0; step < STEPS; step++) {
                if (table.chance[train * STEPS + step] != 0) {
                    dearest = Math.max(dearest, worthAt(table, table.to[train], table.arrival(train, step, minute)));
                }
            }
            return dearest == IMPOSSIBLE ? IMPOSSIBLE : table.fares[train] + dearest;
        }
    }

    /** A text that has been read: its pieces and signs, each sign behind what it joins. */
    private static final class Text {
        private static final int NAMES = 10000, SIGNS = 20000;
        private final int key;
        private final int leaves;
        private final int[] codes;

        Text(int key, int leaves, int[] codes) {
            this.key = key;
            this.leaves = leaves;
            this.codes = codes;
        }

        int worth(int[] stack, int first, int second, int third) {
            int size = 0;
            for (int i = 0; i < codes.length; i++) {
                int code = codes[i];
                if (code < SIGNS) {
                    if (size < stack.length) {
                        stack[size] = code < NAMES ? code : named(code - NAMES, first, second, third);
                        size++;
                    }
                } else if (code == SIGNS + '!') {
                    if (size > 0) {
                        stack[size - 1] = stack[size - 1] == 0 ? 1 : 0;
                    }
                } else if (size > 1) {
                    size--;
                    stack[size - 1] = joined(code - SIGNS, stack[size - 1], stack[size]);
                }
            }
            return size > 0 ? stack[0] : 0;
        }

        private static int named(int name, int first, int second, int third) {
            switch (name) {
                case 0: return first;
                case 1: return second;
                default: return third;
            }
        }

        private static int joined(int sign, int a, int b) {
            switch (sign) {
                case '+': return a + b;
                case '-': return a - b;
                case '*': return a * b;
                case '/': return b == 0 ? 0 : a / b;
                case '<': return a < b ? 1 : 0;
                case '=': return a == b ? 1 : 0;
                case '>': return a > b ? 1 : 0;
                case '&': return a != 0 && b != 0 ? 1 : 0;
                default: return a != 0 || b != 0 ? 1 : 0;
            }
        }
    }

    /** Bytes that are read word by word; where no text goes on with a word or sign, the reading stays there. */
    private static final class Tape {
        private static final int END = 0, LETTERS = 1, DIGITS = 2, SIGN = 3, TIGHT = 4;
        private static final int OR = 0, TEST = 2, PIECE = 5;
        private static final int MOST_OPEN = 8, MOST_DIGITS = 4;
        private final byte[] bytes = new byte[MOST_BYTES];
        private int size;
        private int start;
        private int end;
        private int sort;
        private int key;
        private int leaves;
        private int length;
        private final int[] codes = new int[MOST_BYTES];

        void append(int four) {
            for (int shift = 24; shift >= 0 && size < MOST_BYTES; shift -= 8) {
                bytes[size] = (byte) (four >> shift);
                size++;
            }
        }

        /** A byte, 0 to 255; behind the end a blank, which belongs to no word. */
        private int byteAt(int place) {
            return within(place, 0, size - 1) ? bytes[place] & 255 : ' ';
        }

        /** The text of these bytes, or null: then faultPlace() tells where no text goes on. */
        Text parse() {
            end = 0;
            sort = SIGN;
            length = 0;
            leaves = 0;
            goOn();
            key = keyHere();
            if (key == NONE) {
                return null;
            }
            goOn();
            boolean whole = readLevel(OR, 0, 0) && sort == END;
            return whole ? new Text(key, leaves, Arrays.copyOf(codes, length)) : null;
        }

        int faultPlace() {
            return start;
        }

        private void goOn() {
            boolean behindWord = sort == LETTERS || sort == DIGITS;
            start = end;
            while (start < size && byteAt(start) == ' ') {
                start++;
            }
            boolean tight = start == end && behindWord;
            sort = start >= size ? END : sortOf(byteAt(start));
            end = sort == END ? start : start + 1;
            if (sort == LETTERS || sort == DIGITS) {
                while (end < size && sortOf(byteAt(end)) == sort) {
                    end++;
                }
                sort = tight ? TIGHT : sort;
            }
        }

        private static int sortOf(int sign) {
            if (within(sign, 'a', 'z')) {
                return LETTERS;
            }
            return within(sign, '0', '9') ? DIGITS : SIGN;
        }

        private int keyHere() {
            for (int i = 0; i < KEYS; i++) {
                if (sort == LETTERS && isWord(wordOf(i))) {
                    return i;
                }
            }
            return NONE;
        }

        private static String wordOf(int key) {
            switch (key) {
                case WAITS_KEY: return "waits";
                case TIDE_KEY: return "tide";
                default: return "walk";
            }
        }

        private static String namesOf(int key) {
            switch (key) {
                case WAITS_KEY: return "knd";
                case TIDE_KEY: return "nd";
                default: return "swd";
            }
        }

        private boolean isWord(String word) {
            if (end - start != word.length()) {
                return false;
            }
            for (int i = 0; i < word.length(); i++) {
                if (byteAt(start + i) != word.charAt(i)) {
                    return false;
                }
            }
            return true;
        }

        /** The levels of signs, the loosest first; open and nots are how many ( and ! stand open around it. */
        private boolean readLevel(int level, int open, int nots) {
            if (level >= PIECE) {
                return readPiece(open, nots);
            }
            if (!readLevel(level + 1, open, nots)) {
                return false;
            }
            int most = level == TEST ? 1 : MOST_BYTES;
            for (int i = 0; i < most && joinsAt(level); i++) {
                int sign = byteAt(start);
                goOn();
                if (!readLevel(level + 1, open, nots)) {
                    return false;
                }
                put(Text.SIGNS + sign);
            }
            return true;
        }

        private boolean joinsAt(int level) {
            return sort == SIGN && signsOf(level).indexOf((char) byteAt(start)) >= 0;
        }

        private static String signsOf(int level) {
            switch (level) {
                case OR: return "|";
                case 1: return "&";
                case TEST: return "<=>";
                case 3: return "+-";
                default: return "*/";
            }
        }

        private boolean readPiece(int open, int nots) {
            if (sort == DIGITS || sort == LETTERS) {
                return readLeaf(sort == DIGITS ? numberHere() : nameHere());
            }
            int sign = sort == SIGN ? byteAt(start) : 0;
            if (sign == '!' && nots < MOST_OPEN) {
                goOn();
                boolean whole = readPiece(open, nots + 1);
                put(Text.SIGNS + '!');
                return whole;
            }
            if (sign != '(' || open >= MOST_OPEN) {
                return false;
            }
            goOn();
            if (!readLevel(OR, open + 1, nots) || sort != SIGN || byteAt(start) != ')') {
                return false;
            }
            goOn();
            return true;
        }

        /** The code of the number here, or NONE. */
        private int numberHere() {
            if (end - start > MOST_DIGITS) {
                return NONE;
            }
            int number = 0;
            for (int i = start; i < end; i++) {
                number = 10 * number + byteAt(i) - '0';
            }
            return number;
        }

        /** The code of the name here, or NONE. */
        private int nameHere() {
            int name = end - start == 1 ? namesOf(key).indexOf((char) byteAt(start)) : -1;
            return name < 0 ? NONE : Text.NAMES + name;
        }

        private boolean readLeaf(int code) {
            if (code == NONE) {
                return false;
            }
            leaves++;
            put(code);
            goOn();
            return true;
        }

        private void put(int code) {
            if (length < codes.length) {
                codes[length] = code;
                length++;
            }
        }
    }

    /** A row of shorts or floats, held as ints; NONE is a place of floats that is no number. */
    private static final class Sheet {
        private int sort = MISSING;
        private int size;
        private final int[] cells = new int[MOST_CELLS];

        void begin(int newSort, int newSize) {
            sort = newSort;
            size = newSize;
            Arrays.fill(cells, 0);
        }

        void takeFrom(Sheet other) {
            sort = other.sort;
            size = other.size;
            System.arraycopy(other.cells, 0, cells, 0, MOST_CELLS);
        }

        boolean hasPlace(int place) {
            return within(place, 0, size - 1);
        }

        boolean hasRun(int place, int many) {
            return within(place, 0, size) && within(many, 0, size - place);
        }
    }

    private static final class Slot {
        private int thing = HOLDS_NOTHING;
        private int number;
        private final Train train = new Train();
        private final Sheet sheet = new Sheet();
    }
}
