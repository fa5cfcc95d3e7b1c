/** The edges of promises 1 to 11, each sentence by itself. */
public final class EdgesStopsTrainsTest extends Edge {
    public static void main(String[] args) {
        newObject();
        stop();
        walk();
        train();
        trainEnds();
        told();
        toldByKinds();
        toldHeld();
        as();
        turns();
        set();
        chances();
        hangs();
        day();
        end(1, 11);
    }

    private static CreweChange sixStops() {
        return withStops(0, 1, 2, 3, 4, 99);
    }

    private static CreweChange twelveTrains() {
        CreweChange x = withStops(0, 5);
        for (int i = 0; i < 12; i++) x.train(i % 6, 1, 600 + i, 10);
        return x;
    }

    private static CreweChange sixKinds() {
        CreweChange x = withStops(0, 5);
        for (int kind = 0; kind < 6; kind++) x.train(kind, 1, 100, 10);
        return x;
    }

    private static void newObject() {
        of(1, "no STOPS, nothing there yet");
        CreweChange x = new CreweChange();
        int[] first = {0, 0, 0, 0, 0, 0, 720, 0, 0, 0, 1};
        for (int what = 0; what <= 10; what++) due(x.count(what), first[what]);
        due(x.walk(0), BAD);
        due(x.told(0, 0), BAD);
        due(x.train(0, 1, 0, 1), BAD);
        due(x.add(0), BAD);
        due(x.aim(0, 0), BAD);
        due(x.mean(0, 0), BAD);
        due(x.taken(0, 0), BAD);
        due(x.sure(0, 0), BAD);
        due(x.cheap(0, 0), BAD);
        due(x.latest(0, 0), BAD);
        due(x.guest(0, 0), BAD);
        due(x.ride(0, 0), BAD);
        of(1, "no TRAINS in THE PLAN, no GUESTS, no TEXTS, no IMAGE");
        due(x.judge(), NONE);
        due(x.plan(0), 1);
        due(x.plan(1), 0);
        due(x.clear(), 0);
        due(x.never(0), 0);
        due(x.never(1), NONE);
        due(x.part(), 0);
        due(x.gather(0), NONE);
        due(x.gather(1), NONE);
        for (int key = 0; key < 3; key++) due(x.why(key), NONE);
        due(x.textTold(0, 0), BAD);
        due(x.back(), NO);
        due(x.check(1), NO);
        of(1, "DAY 0, NOON 720, z 1, THE TAPE empty");
        due(x.day(0), 0);
        due(x.aim(1, 720), 720);
        due(x.seed(1), 1);
        due(x.trim(0), 0);
        due(x.trim(1), BAD);
        due(x.text(), -100);
        of(1, "SHEETS 0 .. 3 MISSING, SLOTS 0 .. 4 hold nothing");
        for (int sheet = 0; sheet < 4; sheet++) due(x.mark(sheet, 0, 0), NOTHING);
        for (int slot = 0; slot < 5; slot++) due(x.lay(slot, 0, 0), 0);
        for (int slot = 0; slot < 5; slot++) due(x.ask(slot, 0), NOTHING);
        of(1, "THE GOAL is 0 at first: the first STOP is it");
        x.stop(1);
        due(x.mean(0, 5), 500);
        due(x.taken(0, 5), NONE);
        of(1, "one object knows nothing of another");
        due(new CreweChange().count(0), 0);
    }

    private static void stop() {
        of(2, "WALK 0 .. 99: the last taken, the first refused");
        CreweChange x = new CreweChange();
        due(x.stop(0), 0);
        due(x.stop(99), 1);
        refused(Edge::crewe, BAD, y -> y.stop(-1), y -> y.stop(100), y -> y.stop(LEAST), y -> y.stop(MOST));
        refused(CreweChange::new, BAD, y -> y.stop(-1), y -> y.stop(100));
        of(2, "6 at most, numbered from 0");
        for (int i = 2; i < 6; i++) due(x.stop(i), i);
        due(x.count(0), 6);
        due(x.stop(0), FULL);
        refused(EdgesStopsTrainsTest::sixStops, FULL, y -> y.stop(0), y -> y.stop(99));
        of(2, "BAD ahead of FULL");
        refused(EdgesStopsTrainsTest::sixStops, BAD, y -> y.stop(-1), y -> y.stop(100));
        of(2, "asked right behind each one");
        CreweChange asked = new CreweChange();
        for (int i = 0; i < 6; i++) {
            due(asked.stop(7 + i), i);
            due(asked.walk(i), 7 + i);
            due(asked.walk(i + 1), BAD);
        }
        of(2, "FULL no more after back()");
        CreweChange z = withStops(1, 2, 3, 4, 5);
        z.keep();
        due(z.stop(7), 5);
        due(z.stop(8), FULL);
        z.back();
        due(z.stop(9), 5);
        due(z.walk(5), 9);
    }

    private static void walk() {
        of(3, "a STOP: the last there is, the first there is not");
        CreweChange x = sixStops();
        due(x.walk(0), 0);
        due(x.walk(5), 99);
        due(x.walk(-1), BAD);
        due(x.walk(6), BAD);
        due(x.walk(LEAST), BAD);
        due(x.walk(MOST), BAD);
        refused(Edge::crewe, BAD, y -> y.walk(-1), y -> y.walk(3));
        of(3, "without a TEXT as told");
        for (int i = 1; i < 5; i++) due(x.walk(i), i);
        of(3, "what walk gives, held within 0 .. 99");
        int[][] held = {{-1, 0}, {0, 0}, {1, 1}, {98, 98}, {99, 99}, {100, 99}, {9999, 99}, {-9999, 0}};
        for (int[] h : held) {
            CreweChange y = withStops(50);
            text(y, h[0] < 0 ? "walk 0-" + -h[0] : "walk " + h[0]);
            due(y.walk(0), h[1]);
        }
        of(3, "ints wrap ahead of being held");
        CreweChange y = withStops(50);
        // 8192 * 8192 * 32 is 2 to the 31st: the least int
        text(y, "walk 8192*8192*32");
        due(y.walk(0), 0);
        text(y, "walk 8192*8192*32-1");
        due(y.walk(0), 99);
        text(y, "walk 8192*8192*64+42");
        due(y.walk(0), 42);
        of(3, "s the STOP, w minutes as told (not as held), d DAY");
        CreweChange z = withStops(0, 99, 7);
        text(z, "walk s*10+w/9+d");
        due(z.walk(0), 0);
        due(z.walk(1), 21);
        due(z.walk(2), 20);
        z.day(70);
        due(z.walk(1), 91);
        due(z.walk(2), 90);
        z.day(999);
        due(z.walk(0), 99);
        of(3, "a TEXT of another KEY does nothing");
        CreweChange u = withStops(5);
        text(u, "waits 9");
        text(u, "tide 9");
        due(u.walk(0), 5);
    }

    private static void train() {
        of(4, "KIND 0 .. 5: the last taken, the first refused");
        CreweChange x = sixStops();
        due(x.train(0, 1, 5, 5), 0);
        due(x.train(5, 1, 5, 5), 1);
        refused(Edge::crewe, BAD, y -> y.train(-1, 1, 5, 5), y -> y.train(6, 1, 5, 5), y -> y.train(LEAST, 1, 5, 5), y -> y.train(MOST, 1, 5, 5));
        of(4, "LEAVE 0 .. 1439");
        due(x.train(0, 1, 0, 5), 2);
        due(x.train(0, 1, 1439, 5), 3);
        refused(Edge::crewe, BAD, y -> y.train(0, 1, -1, 5), y -> y.train(0, 1, 1440, 5), y -> y.train(0, 1, LEAST, 5), y -> y.train(0, 1, MOST, 5));
        of(4, "1 .. 600 minutes");
        due(x.train(0, 1, 5, 1), 4);
        due(x.train(0, 1, 5, 600), 5);
        refused(Edge::crewe, BAD, y -> y.train(0, 1, 5, 0), y -> y.train(0, 1, 5, 601), y -> y.train(0, 1, 5, -1), y -> y.train(0, 1, 5, MOST));
        int[][] kept = {{5, 5}, {5, 5}, {0, 5}, {1439, 5}, {5, 1}, {5, 600}};
        for (int i = 0; i < 6; i++) {
            due(x.told(i, 3), kept[i][0]);
            due(x.told(i, 4), kept[i][1]);
        }
        of(4, "PRICE 0, CHANCES 100, 0, 0, 0, no HOST at first");
        due(x.told(5, 5), 0);
        due(x.told(5, 6), NONE);
        int[] chances = {100, 0, 0, 0};
        for (int s = 0; s < 4; s++) due(x.told(5, 10 + s), chances[s]);
        of(4, "12 at most, numbered from 0");
        for (int i = 6; i < 12; i++) due(x.train(0, 54, 5, 5), i);
        due(x.train(0, 54, 5, 5), FULL);
        due(x.count(1), 12);
        refused(EdgesStopsTrainsTest::twelveTrains, FULL, y -> y.train(0, 1, 0, 1), y -> y.train(5, 10, 1439, 600));
        of(4, "BAD ahead of FULL");
        refused(EdgesStopsTrainsTest::twelveTrains, BAD, y -> y.train(6, 1, 0, 1), y -> y.train(0, 11, 0, 1), y -> y.train(0, 1, 1440, 1), y -> y.train(0, 1, 0, 601));
        of(4, "a TRAIN that comes again after back() is new");
        CreweChange z = withStops(0, 0);
        z.train(0, 1, 5, 5);
        z.keep();
        z.train(0, 10, 5, 5);
        z.set(1, 0, 9);
        z.chances(1, 1, 2, 3);
        z.hangs(1, 0);
        z.back();
        due(z.told(1, 5), BAD);
        due(z.train(3, 10, 5, 5), 1);
        due(z.told(1, 5), 0);
        due(z.told(1, 6), NONE);
        for (int s = 0; s < 4; s++) due(z.told(1, 10 + s), chances[s]);
    }

    private static void trainEnds() {
        of(4, "ends: 10 times the one from, and the one to");
        CreweChange x = sixStops();
        due(x.train(0, 1, 5, 5), 0);
        due(x.train(0, 50, 5, 5), 1);
        due(x.train(0, 5, 5, 5), 2);
        int[][] ends = {{0, 1}, {5, 0}, {0, 5}};
        for (int i = 0; i < 3; i++) {
            due(x.told(i, 1), ends[i][0]);
            due(x.told(i, 2), ends[i][1]);
        }
        of(4, "BAD: ends that are one");
        for (int stop = 0; stop < 6; stop++) due(x.train(0, 11 * stop, 5, 5), BAD);
        due(x.count(1), 3);
        of(4, "BAD: a STOP that there is not");
        int[] none = {6, 9, 16, 56, 60, 65, 99, 100, 101, 105, -1, -5, -10, -12, -50, LEAST, LEAST + 7, MOST, MOST - 6};
        for (int e : none) due(x.train(0, e, 5, 5), BAD);
        due(x.count(1), 3);
        refused(Edge::crewe, BAD, y -> y.train(0, 11, 5, 5), y -> y.train(0, 3, 5, 5), y -> y.train(0, 30, 5, 5), y -> y.train(0, -1, 5, 5));
        of(4, "no STOP, one STOP, two");
        CreweChange z = new CreweChange();
        due(z.train(0, 0, 5, 5), BAD);
        due(z.train(0, 1, 5, 5), BAD);
        z.stop(0);
        due(z.train(0, 0, 5, 5), BAD);
        due(z.train(0, 1, 5, 5), BAD);
        z.stop(0);
        due(z.train(0, 2, 5, 5), BAD);
        due(z.train(0, 10, 5, 5), 0);
    }

    private static void told() {
        of(5, "a TRAIN: the last there is, the first there is not");
        CreweChange x = twelveTrains();
        due(x.told(0, 3), 600);
        due(x.told(11, 3), 611);
        due(x.told(-1, 3), BAD);
        due(x.told(12, 3), BAD);
        due(x.told(LEAST, 3), BAD);
        due(x.told(MOST, 3), BAD);
        of(5, "what 0 .. 17");
        due(x.told(11, 0), 5);
        due(x.told(11, 17), 636);
        due(x.told(11, -1), BAD);
        due(x.told(11, 18), BAD);
        due(x.told(11, LEAST), BAD);
        due(x.told(11, MOST), BAD);
        refused(Edge::crewe, BAD, y -> y.told(4, 0), y -> y.told(-1, 0), y -> y.told(0, 18), y -> y.told(0, -1));
        of(5, "CHANCES end at 13, THERE begins at 14");
        x.chances(3, 1, 2, 4);
        int[] row = {93, 1, 2, 4, 613, 620, 627, 634};
        for (int i = 0; i < 8; i++) due(x.told(3, 10 + i), row[i]);
        of(5, "HOST: NONE, or a number from 0 on");
        due(x.told(3, 6), NONE);
        x.hangs(3, 0);
        due(x.told(3, 6), 0);
    }

    private static void toldByKinds() {
        CreweChange x = sixKinds();
        of(5, "GOES without a TEXT: LEAVE");
        for (int i = 0; i < 6; i++) due(x.told(i, 7), 100);
        of(5, "WAITS without a TEXT, by KINDS");
        int[] waits = {0, 0, 5, 0, 10, 10};
        for (int i = 0; i < 6; i++) due(x.told(i, 8), waits[i]);
        of(5, "FARE by KINDS: half is cut, PRICE 0 .. 999");
        int[] prices = {0, 1, 2, 3, 998, 999};
        for (int price : prices) {
            int[] fares = {price, price / 2, price + 10, price / 2, 2 * price + 20, price};
            for (int i = 0; i < 6; i++) {
                x.set(i, 0, price);
                due(x.told(i, 9), fares[i]);
            }
        }
        of(5, "THERE by STEPS 0 .. 3, by KINDS");
        int[][] there = {{110, 115, 120, 125}, {110, 117, 124, 131}, {110, 110, 110, 110}, {110, 117, 124, 131}, {110, 110, 110, 110}, {110, 115, 120, 125}};
        for (int i = 0; i < 6; i++)
            for (int s = 0; s < 4; s++) due(x.told(i, 14 + s), there[i][s]);
        of(5, "HANGS: half (cut) of the DELAY of its HOST, as the HOST's KIND says");
        // by a host of each kind: delays 0, 5, 10, 15 or 0, 7, 14, 21 or none
        int[][] half = {{0, 2, 5, 7}, {0, 3, 7, 10}, {0, 0, 0, 0}, {0, 3, 7, 10}, {0, 0, 0, 0}, {0, 2, 5, 7}};
        for (int kind = 0; kind < 6; kind++) {
            CreweChange y = withStops(0, 5);
            y.train(kind, 1, 1000, 500);
            y.train(3, 1, 100, 10);
            y.hangs(1, 0);
            for (int s = 0; s < 4; s++) due(y.told(1, 14 + s), 110 + 7 * s + half[kind][s]);
        }
        of(5, "a KIND that is not HANGS does not hang, though it has a HOST");
        for (int kind = 0; kind < 6; kind++) {
            CreweChange y = withStops(0, 5);
            y.train(1, 1, 1000, 500);
            y.train(kind, 1, 100, 10);
            y.hangs(1, 0);
            for (int s = 0; s < 4; s++) due(y.told(1, 14 + s), kind == 3 ? 110 + 7 * s + 7 * s / 2 : there[kind][s]);
        }
        of(5, "HANGS on HANGS, eleven deep");
        CreweChange z = withStops(0, 5);
        int delay = 0;
        for (int i = 0; i < 12; i++) {
            z.train(3, 1, 1439, 600);
            z.hangs(i, i == 0 ? NONE : i - 1);
            delay = 21 + delay / 2;
            due(z.told(i, 17), 1439 + 600 + delay);
        }
        of(5, "a HOST that waits or is by the tide: DELAY alone counts");
        CreweChange u = withStops(0, 5);
        u.train(4, 1, 100, 10);
        u.train(3, 1, 100, 10);
        u.hangs(1, 0);
        text(u, "tide 100");
        due(u.told(0, 17), 210);
        due(u.told(1, 17), 131);
    }

    private static void toldHeld() {
        of(5, "GOES of a TIDE: what tide gives, held within 0 .. 120; of no other KIND");
        int[][] tides = {{-9999, 0}, {-1, 0}, {0, 0}, {1, 1}, {119, 119}, {120, 120}, {121, 120}, {9999, 120}};
        for (int[] tide : tides) {
            CreweChange x = sixKinds();
            text(x, tide[0] < 0 ? "tide 0-" + -tide[0] : "tide " + tide[0]);
            for (int i = 0; i < 6; i++) due(x.told(i, 7), i == 4 ? 100 + tide[1] : 100);
            due(x.told(4, 14), 110 + tide[1]);
            due(x.told(4, 17), 110 + tide[1]);
        }
        of(5, "a LEAVE of 1439 and a TIDE of 120");
        CreweChange z = withStops(0, 0);
        z.train(4, 1, 1439, 600);
        text(z, "tide 120");
        due(z.told(0, 7), 1559);
        due(z.told(0, 17), 2159);
        due(z.told(0, 3), 1439);
        of(5, "WAITS: what waits gives, held within 0 .. 30, of every KIND");
        int[][] waits = {{-9999, 0}, {-1, 0}, {0, 0}, {1, 1}, {29, 29}, {30, 30}, {31, 30}, {9999, 30}};
        for (int[] wait : waits) {
            CreweChange x = sixKinds();
            text(x, wait[0] < 0 ? "waits 0-" + -wait[0] : "waits " + wait[0]);
            for (int i = 0; i < 6; i++) due(x.told(i, 8), wait[1]);
        }
        of(5, "k KIND, n the number, d DAY");
        CreweChange x = sixKinds();
        text(x, "waits k+n*2+d");
        text(x, "tide n*9+d");
        x.day(3);
        for (int i = 0; i < 6; i++) due(x.told(i, 8), 3 * i + 3);
        due(x.told(4, 7), 100 + 36 + 3);
        x.turns(5, 4);
        due(x.told(5, 8), 4 + 10 + 3);
        due(x.told(5, 7), 100 + 45 + 3);
    }

    private static void as() {
        of(6, "of that KIND, or of one under it: LEAVE; else KIND");
        CreweChange x = twelveTrains();
        String[] under = {"0", "01", "02", "013", "024", "05"};
        for (int i = 0; i < 12; i++)
            for (int kind = 0; kind < 6; kind++) due(x.as(i, kind), under[i % 6].indexOf('0' + kind) >= 0 ? 600 + i : KIND);
        of(6, "BAD: train, kind");
        due(x.as(-1, 0), BAD);
        due(x.as(12, 0), BAD);
        due(x.as(0, -1), BAD);
        due(x.as(0, 6), BAD);
        due(x.as(LEAST, 0), BAD);
        due(x.as(0, MOST), BAD);
        refused(Edge::crewe, BAD, y -> y.as(4, 0), y -> y.as(0, 6), y -> y.as(-1, -1));
        refused(Edge::crewe, KIND, y -> y.as(0, 5), y -> y.as(3, 1));
        of(6, "LEAVE, not GOES");
        x.turns(0, 4);
        text(x, "tide 50");
        due(x.as(0, 0), 600);
        of(6, "LEAVE may be 0");
        x.set(0, 1, 0);
        due(x.as(0, 2), 0);
    }

    private static void turns() {
        of(7, "KIND 0 .. 5: what it was");
        CreweChange x = twelveTrains();
        due(x.turns(0, 5), 0);
        due(x.turns(0, 0), 5);
        due(x.turns(11, 3), 5);
        of(7, "to the KIND that it is");
        due(x.turns(11, 3), 3);
        due(x.told(11, 0), 3);
        of(7, "BAD: train, kind");
        refused(Edge::crewe, BAD, y -> y.turns(-1, 0), y -> y.turns(4, 0), y -> y.turns(0, -1), y -> y.turns(0, 6), y -> y.turns(LEAST, 0), y -> y.turns(0, MOST));
        due(x.turns(12, 0), BAD);
        of(7, "from now on: what rests on the KIND is another, the rest stays");
        CreweChange z = crewe();
        due(z.turns(2, 1), 3);
        due(z.told(2, 6), 0);
        due(z.told(2, 17), 670 + 21);
        due(z.told(2, 11), 50);
        due(z.turns(2, 3), 1);
        due(z.told(2, 17), 670 + 21 + 7);
        due(z.turns(0, 2), 0);
        due(z.told(2, 17), 670 + 21);
    }

    private static void set() {
        of(8, "PRICE 0 .. 999 (what 0)");
        CreweChange x = twelveTrains();
        due(x.set(0, 0, 999), 0);
        due(x.set(0, 0, 0), 999);
        due(x.set(0, 0, 1), 0);
        refused(Edge::crewe, BAD, y -> y.set(1, 0, -1), y -> y.set(1, 0, 1000), y -> y.set(1, 0, LEAST), y -> y.set(1, 0, MOST));
        of(8, "LEAVE 0 .. 1439 (1)");
        due(x.set(0, 1, 1439), 600);
        due(x.set(0, 1, 0), 1439);
        due(x.set(0, 1, 1), 0);
        refused(Edge::crewe, BAD, y -> y.set(1, 1, -1), y -> y.set(1, 1, 1440), y -> y.set(1, 1, LEAST), y -> y.set(1, 1, MOST));
        of(8, "1 .. 600 minutes (2)");
        due(x.set(0, 2, 600), 10);
        due(x.set(0, 2, 1), 600);
        due(x.set(0, 2, 2), 1);
        refused(Edge::crewe, BAD, y -> y.set(1, 2, 0), y -> y.set(1, 2, 601), y -> y.set(1, 2, -1), y -> y.set(1, 2, MOST));
        of(8, "what 0 .. 2, a TRAIN that there is");
        refused(Edge::crewe, BAD, y -> y.set(1, -1, 5), y -> y.set(1, 3, 5), y -> y.set(-1, 0, 5), y -> y.set(4, 0, 5), y -> y.set(MOST, 1, 5));
        due(x.set(11, 0, 5), 0);
        due(x.set(12, 0, 5), BAD);
        of(8, "one of them alone becomes v");
        int[] figures = {1, 1, 2};
        for (int what = 0; what < 3; what++) due(x.told(0, new int[] {5, 3, 4}[what]), figures[what]);
        due(x.told(1, 5), 0);
        due(x.told(1, 3), 601);
        due(x.told(1, 4), 10);
    }

    private static void chances() {
        of(9, "what is left to 100 is of STEP 0: 100, and 0");
        CreweChange x = twelveTrains();
        int[][] taken = {{0, 0, 0}, {100, 0, 0}, {0, 100, 0}, {0, 0, 100}, {33, 33, 34}, {1, 0, 0}, {33, 33, 33}, {0, 50, 50}};
        for (int[] c : taken) {
            int left = 100 - c[0] - c[1] - c[2];
            due(x.chances(11, c[0], c[1], c[2]), left);
            due(x.told(11, 10), left);
            for (int s = 1; s < 4; s++) due(x.told(11, 10 + s), c[s - 1]);
        }
        of(9, "BAD: all are above 100");
        refused(Edge::crewe, BAD, y -> y.chances(0, 101, 0, 0), y -> y.chances(0, 0, 101, 0), y -> y.chances(0, 0, 0, 101), y -> y.chances(0, 34, 33, 34), y -> y.chances(0, 100, 100, 100));
        of(9, "BAD: one is below 0, though all are 100 or less");
        refused(Edge::crewe, BAD, y -> y.chances(0, -1, 0, 0), y -> y.chances(0, 0, -1, 0), y -> y.chances(0, 0, 0, -1), y -> y.chances(0, -1, 50, 51), y -> y.chances(0, 101, -1, 0), y -> y.chances(0, 50, 51, -1));
        of(9, "BAD: their sum would wrap");
        refused(Edge::crewe, BAD, y -> y.chances(0, MOST, MOST, 2), y -> y.chances(0, MOST, 1, 0), y -> y.chances(0, 0, MOST, MOST), y -> y.chances(0, LEAST, LEAST, 0), y -> y.chances(0, MOST, LEAST, 1));
        of(9, "BAD: train");
        refused(Edge::crewe, BAD, y -> y.chances(-1, 0, 0, 0), y -> y.chances(4, 0, 0, 0), y -> y.chances(MOST, 0, 0, 0));
        due(x.chances(12, 0, 0, 0), BAD);
    }

    private static void hangs() {
        of(10, "a HOST of a lesser number: the last taken, the first refused");
        CreweChange x = twelveTrains();
        due(x.hangs(11, 10), NONE);
        due(x.hangs(11, 0), 10);
        due(x.hangs(1, 0), NONE);
        refused(Edge::crewe, BAD, y -> y.hangs(2, 2), y -> y.hangs(2, 3), y -> y.hangs(2, 4), y -> y.hangs(2, -1), y -> y.hangs(2, LEAST), y -> y.hangs(2, MOST));
        of(10, "TRAIN 0 can have none");
        refused(Edge::crewe, BAD, y -> y.hangs(0, 0), y -> y.hangs(0, 1), y -> y.hangs(0, -1));
        due(x.hangs(0, NONE), NONE);
        of(10, "NONE: none; what it was");
        due(x.hangs(11, NONE), 0);
        due(x.hangs(11, NONE), NONE);
        due(x.told(11, 6), NONE);
        of(10, "BAD: train");
        refused(Edge::crewe, BAD, y -> y.hangs(-1, NONE), y -> y.hangs(4, NONE), y -> y.hangs(4, 0), y -> y.hangs(MOST, 0), y -> y.hangs(NONE, NONE));
        due(x.hangs(12, 0), BAD);
        of(10, "other numbers near NONE are none of these");
        refused(Edge::crewe, BAD, y -> y.hangs(2, NONE + 1), y -> y.hangs(2, NONE - 1), y -> y.hangs(2, BAD));
        of(10, "two may hang on one");
        CreweChange z = sixKinds();
        z.turns(4, 3);
        z.hangs(3, 1);
        z.hangs(4, 1);
        due(z.told(3, 17), 131 + 10);
        due(z.told(4, 17), 131 + 10);
    }

    private static void day() {
        of(11, "DAY 0 .. 999: what it was");
        CreweChange x = new CreweChange();
        due(x.day(999), 0);
        due(x.day(0), 999);
        due(x.day(1), 0);
        due(x.count(7), 1);
        refused(Edge::crewe, BAD, y -> y.day(-1), y -> y.day(1000), y -> y.day(LEAST), y -> y.day(MOST));
        of(11, "DAY is d of all KEYS");
        CreweChange z = crewe();
        z.trim(0);
        z.day(30);
        due(z.told(3, 7), 700 + 57);
        due(z.walk(0), 9);
        text(z, "walk d");
        due(z.walk(0), 30);
        text(z, "waits d-1");
        due(z.told(0, 8), 29);
        z.day(999);
        due(z.told(3, 7), 820);
        due(z.walk(0), 99);
        due(z.told(0, 8), 30);
    }
}
