/** Each promise by itself: ordinary calls, the edges that the document names, wrong calls; the answers are worked out by hand. */
public final class PromisesTest {
    private static final int BAD = -1000000001, NO = -1000000002, FULL = -1000000003, NONE = -1000000005;
    private static final int NOTHING = -1000000011, KIND = -1000000012, INDEX = -1000000013, SIZE = -1000000014;
    private static int wrong = 0;
    private static int promise = 0;
    private static int line = 0;

    public static void main(String[] args) {
        stopsAndTrains();
        figuresOfTrains();
        changesOfTrains();
        makesAndNever();
        mends();
        plans();
        aims();
        means();
        surest();
        cheapest();
        latest();
        tape();
        textFaults();
        textDepths();
        textWorths();
        textKeys();
        guests();
        rides();
        sheets();
        pourAndReads();
        copies();
        slots();
        slotsStay();
        rows();
        images();
        refusalsChangeNothing();
        everyMinuteCounts();
        askedAgainAfterChanges();
        imagesRide();
        System.out.println(wrong == 0 ? "all promises are as due" : wrong + " answers are not as due");
        if (wrong != 0) System.exit(1);
    }

    /** The checks behind it are of this promise. */
    private static void of(int number) {
        promise = number;
        line = 0;
    }

    private static void due(long got, long want) {
        line++;
        if (got != want) {
            wrong++;
            System.out.println("promise " + promise + ", check " + line + ": answered " + got + ", due is " + want);
        }
    }

    private static CreweChange withStops(int... walks) {
        CreweChange x = new CreweChange();
        for (int walk : walks) x.stop(walk);
        return x;
    }

    private static void feed(CreweChange x, String text) {
        StringBuilder b = new StringBuilder(text);
        while (b.length() % 12 != 0) b.append(' ');
        for (int i = 0; i < b.length(); i += 12) x.feed(four(b, i), four(b, i + 4), four(b, i + 8));
        x.trim(text.length());
    }

    private static int four(CharSequence b, int i) {
        return b.charAt(i) << 24 | b.charAt(i + 1) << 16 | b.charAt(i + 2) << 8 | b.charAt(i + 3);
    }

    private static int text(CreweChange x, String text) {
        feed(x, text);
        return x.text();
    }

    private static void stopsAndTrains() {
        of(1);
        CreweChange x = new CreweChange();
        int[] first = {0, 0, 0, 0, 0, 0, 720, 0, 0, 0, 1};
        for (int what = 0; what <= 10; what++) due(x.count(what), first[what]);
        due(x.back(), NO);
        due(x.judge(), NONE);
        due(x.never(1), NONE);
        for (int key = 0; key < 3; key++) due(x.why(key), NONE);
        for (int slot = 0; slot < 5; slot++) due(x.rest(slot, 1), NOTHING);
        for (int sheet = 0; sheet < 4; sheet++) due(x.mark(sheet, 0, 1), NOTHING);
        of(2);
        due(x.stop(-1), BAD);
        due(x.stop(100), BAD);
        int[] walks = {0, 99, 5, 6, 7, 8};
        for (int i = 0; i < 6; i++) due(x.stop(walks[i]), i);
        due(x.stop(3), FULL);
        due(x.stop(100), BAD);
        due(x.count(0), 6);
        of(3);
        for (int i = 0; i < 6; i++) due(x.walk(i), walks[i]);
        due(x.walk(-1), BAD);
        due(x.walk(6), BAD);
        text(x, "walk w*2+s-d");
        due(x.walk(0), 0);
        due(x.walk(1), 99);
        due(x.walk(2), 12);
        x.day(10);
        due(x.walk(2), 2);
        due(x.walk(0), 0);
        of(4);
        due(x.train(0, 1, 0, 1), 0);
        due(x.train(5, 54, 1439, 600), 1);
        int[][] bad = {{6, 1, 0, 1}, {-1, 1, 0, 1}, {0, 0, 0, 1}, {0, 44, 0, 1}, {0, 6, 0, 1}, {0, 60, 0, 1}, {0, -1, 0, 1}, {0, -12, 0, 1},
            {0, 101, 0, 1}, {0, 1, -1, 1}, {0, 1, 1440, 1}, {0, 1, 0, 0}, {0, 1, 0, 601}, {0, Integer.MIN_VALUE, 0, 1}};
        for (int[] b : bad) due(x.train(b[0], b[1], b[2], b[3]), BAD);
        for (int i = 2; i < 12; i++) due(x.train(i % 6, 12, 100, 10), i);
        due(x.train(0, 12, 100, 10), FULL);
        due(x.train(0, 11, 100, 10), BAD);
        due(x.count(1), 12);
        due(new CreweChange().train(0, 1, 0, 1), BAD);
    }

    private static void figuresOfTrains() {
        of(5);
        CreweChange x = withStops(1, 2, 3);
        for (int kind = 0; kind < 6; kind++) x.train(kind, 12, 100 + kind, 10 + kind);
        for (int i = 0; i < 6; i++) x.set(i, 0, 77);
        x.hangs(3, 1);
        x.chances(3, 10, 20, 30);
        int[] fare = {77, 38, 87, 38, 174, 77};
        int[] waits = {0, 0, 5, 0, 10, 10};
        int[] delay = {5, 7, 0, 7, 0, 5};
        for (int i = 0; i < 6; i++) {
            int[] figures = {i, 1, 2, 100 + i, 10 + i, 77, i == 3 ? 1 : NONE, 100 + i, waits[i], fare[i]};
            for (int what = 0; what < 10; what++) due(x.told(i, what), figures[what]);
            for (int s = 0; s < 4; s++) {
                due(x.told(i, 10 + s), i == 3 ? new int[] {40, 10, 20, 30}[s] : s == 0 ? 100 : 0);
                int host = i == 3 ? 7 * s / 2 : 0;
                due(x.told(i, 14 + s), 110 + 2 * i + s * delay[i] + host);
            }
        }
        due(x.told(6, 0), BAD);
        due(x.told(-1, 0), BAD);
        due(x.told(0, -1), BAD);
        due(x.told(0, 18), BAD);
        // a host that hangs itself, and one whose kind turns
        x.train(3, 12, 200, 1);
        x.hangs(6, 3);
        due(x.told(6, 17), 201 + 21 + (21 + 21 / 2) / 2);
        x.turns(3, 2);
        due(x.told(6, 17), 201 + 21);
        x.turns(3, 5);
        due(x.told(6, 15), 201 + 7 + 5 / 2);
        x.turns(6, 1);
        due(x.told(6, 17), 201 + 21);
        // waits and tides by texts are held
        text(x, "waits n*20-20+d");
        due(x.told(0, 8), 0);
        due(x.told(1, 8), 0);
        due(x.told(2, 8), 20);
        due(x.told(5, 8), 30);
        text(x, "tide n*30+d-1");
        due(x.told(4, 7), 104 + 119);
        x.day(5);
        due(x.told(4, 7), 104 + 120);
        due(x.told(4, 14), 224 + 14);
        due(x.told(0, 7), 100);
        due(x.told(2, 7), 102);
        text(x, "tide 0-5");
        due(x.told(4, 7), 104);
    }

    private static void changesOfTrains() {
        CreweChange x = withStops(1, 2, 3);
        for (int kind = 0; kind < 6; kind++) x.train(kind, 12, 100 + kind, 10);
        of(6);
        String[] under = {"0", "01", "02", "013", "024", "05"};
        for (int i = 0; i < 6; i++)
            for (int kind = 0; kind < 6; kind++) due(x.as(i, kind), under[i].indexOf('0' + kind) >= 0 ? 100 + i : KIND);
        due(x.as(0, 6), BAD);
        due(x.as(0, -1), BAD);
        due(x.as(6, 0), BAD);
        due(x.as(-1, 0), BAD);
        of(7);
        due(x.turns(0, 4), 0);
        due(x.turns(0, 5), 4);
        due(x.told(0, 0), 5);
        due(x.as(0, 2), KIND);
        due(x.turns(0, 6), BAD);
        due(x.turns(0, -1), BAD);
        due(x.turns(6, 0), BAD);
        due(x.told(0, 0), 5);
        of(8);
        due(x.set(1, 0, 999), 0);
        due(x.set(1, 0, 0), 999);
        due(x.set(1, 1, 1439), 101);
        due(x.set(1, 1, 0), 1439);
        due(x.set(1, 2, 600), 10);
        due(x.set(1, 2, 1), 600);
        int[][] bad = {{0, -1}, {0, 1000}, {1, -1}, {1, 1440}, {2, 0}, {2, 601}, {3, 1}, {-1, 1}};
        for (int[] b : bad) due(x.set(1, b[0], b[1]), BAD);
        due(x.set(6, 0, 1), BAD);
        due(x.told(1, 3), 0);
        due(x.told(1, 4), 1);
        due(x.told(1, 5), 0);
        of(9);
        due(x.chances(2, 0, 0, 0), 100);
        due(x.chances(2, 30, 30, 40), 0);
        due(x.told(2, 13), 40);
        due(x.chances(2, 30, 30, 41), BAD);
        due(x.chances(2, -1, 30, 40), BAD);
        due(x.chances(2, 30, -1, 40), BAD);
        due(x.chances(2, 30, 30, -1), BAD);
        due(x.chances(2, Integer.MAX_VALUE, Integer.MAX_VALUE, 2), BAD);
        due(x.chances(6, 0, 0, 0), BAD);
        due(x.told(2, 10), 0);
        due(x.told(2, 11), 30);
        of(10);
        due(x.hangs(3, 0), NONE);
        due(x.hangs(3, 2), 0);
        due(x.hangs(3, NONE), 2);
        due(x.hangs(3, 3), BAD);
        due(x.hangs(3, 4), BAD);
        due(x.hangs(3, -1), BAD);
        due(x.hangs(0, 0), BAD);
        due(x.hangs(0, NONE), NONE);
        due(x.hangs(6, NONE), BAD);
        due(x.told(3, 6), NONE);
        of(11);
        due(x.day(999), 0);
        due(x.day(1000), BAD);
        due(x.day(-1), BAD);
        due(x.day(0), 999);
        due(x.count(7), 0);
    }

    private static void makesAndNever() {
        of(12);
        CreweChange x = withStops(9, 4, 0);
        x.train(0, 1, 600, 10);
        x.train(0, 12, 614, 5);
        x.train(2, 12, 609, 5);
        x.train(1, 20, 700, 5);
        due(x.makes(0, 1), 10000);
        x.set(1, 1, 613);
        due(x.makes(0, 1), 0);
        due(x.makes(0, 2), 10000);
        x.set(2, 1, 608);
        due(x.makes(0, 2), 0);
        // late by 0, 5, 10, 15: 614 .. 629 with the walk, against 617, 622, 627, 632 of another late one
        x.set(1, 1, 617);
        x.chances(0, 20, 30, 40);
        x.chances(1, 40, 30, 20);
        due(x.makes(0, 1), 10 * 10 + (10 + 20) * 40 + (10 + 20 + 30) * 30 + 100 * 20);
        due(x.makes(0, 3), NO);
        due(x.makes(1, 0), NO);
        due(x.makes(0, 0), BAD);
        due(x.makes(0, 4), BAD);
        due(x.makes(-1, 0), BAD);
        text(x, "walk w+10");
        due(x.makes(0, 1), 10 * 30 + 30 * 20);
        of(13);
        due(x.never(0), 2);
        due(x.never(1), 2);
        due(x.never(2), BAD);
        due(x.never(-1), BAD);
        x.set(3, 1, 100);
        due(x.never(0), 3);
        due(x.never(1), 2);
        x.set(2, 1, 700);
        due(x.never(0), 2);
        due(x.never(1), 103);
        x.set(3, 1, 800);
        due(x.never(0), 1);
        due(x.never(1), 300);
        x.set(0, 1, 1000);
        due(x.never(0), 2);
        due(x.never(1), 1);
    }

    private static void mends() {
        of(14);
        CreweChange x = withStops(0, 4, 0);
        x.train(0, 1, 600, 10);
        x.train(0, 12, 600, 5);
        x.chances(0, 50, 0, 0);
        due(x.mends(0, 1, 1), 14);
        due(x.mends(0, 1, 5000), 14);
        due(x.mends(0, 1, 5001), 19);
        due(x.mends(0, 1, 10000), 19);
        due(x.mends(0, 1, 0), BAD);
        due(x.mends(0, 1, 10001), BAD);
        due(x.mends(0, 0, 1), BAD);
        due(x.mends(0, 2, 1), BAD);
        due(x.mends(1, 0, 1), NO);
        due(x.mends(1, 0, 0), BAD);
        x.set(1, 1, 614);
        due(x.mends(0, 1, 5000), 0);
        due(x.mends(0, 1, 5001), 5);
        x.set(0, 1, 1399);
        x.set(1, 1, 414);
        due(x.mends(0, 1, 5000), 999);
        due(x.mends(0, 1, 5001), NONE);
        x.set(1, 1, 413);
        due(x.mends(0, 1, 5000), NONE);
        due(x.told(1, 3), 413);
        // of all pairs of steps the one that is missed by the least, wherever it stands
        CreweChange y = withStops(0, 4, 0);
        y.train(1, 1, 600, 10);
        y.train(0, 12, 600, 5);
        y.chances(0, 0, 0, 100);
        y.chances(1, 40, 30, 30);
        due(y.mends(0, 1, 1), 20);
        due(y.mends(0, 1, 3001), 25);
        due(y.mends(0, 1, 6001), 30);
        due(y.mends(0, 1, 10000), 30);
        y.chances(1, 30, 30, 30);
        due(y.mends(0, 1, 10000), 35);
        y.chances(0, 0, 0, 0);
        y.chances(1, 0, 0, 0);
        due(y.mends(0, 1, 10000), 14);
        // b may leave so much later that it is no minute to leave any more
        x.set(0, 1, 1439);
        x.set(0, 2, 600);
        x.set(1, 1, 1439);
        due(x.mends(0, 1, 1), 604);
    }

    private static void plans() {
        CreweChange x = withStops(0, 0);
        x.train(5, 1, 600, 1);
        x.train(5, 10, 600, 1);
        of(15);
        due(x.add(2), BAD);
        due(x.add(-1), BAD);
        for (int i = 1; i <= 6; i++) due(x.add((i + 1) % 2), i);
        due(x.add(0), FULL);
        due(x.add(2), BAD);
        due(x.count(3), 6);
        of(17);
        due(x.judge(), NONE);
        of(18);
        // without delays each waits for the one ahead
        due(x.plan(0), 1000000000000L);
        due(x.plan(1), 601000000000000L);
        // late by 5 or not: 601 or 606 against 610 or 615, each time by itself
        x.chances(0, 50, 0, 0);
        due(x.plan(0), 1000000000000L);
        due(x.plan(1), 601000000000000L);
        // the other leaves at 596 or 601 and waits to 606 or 611
        x.set(1, 1, 596);
        due(x.plan(0), 1000000000000L);
        x.set(1, 1, 595);
        due(x.plan(0), 125000000000L);
        due(x.plan(1), 125000000000L * 596);
        of(16);
        due(x.clear(), 6);
        due(x.clear(), 0);
        due(x.count(3), 0);
        of(18);
        due(x.plan(0), 1);
        due(x.plan(1), 0);
        due(x.plan(2), BAD);
        due(x.plan(-1), BAD);
        of(17);
        x.add(0);
        due(x.judge(), NONE);
        of(18);
        due(x.plan(0), 100);
        due(x.plan(1), 50 * 601 + 50 * 606);
        of(17);
        x.add(0);
        x.add(0);
        due(x.judge(), 1);
        of(18);
        due(x.plan(0), NO);
        due(x.plan(2), BAD);
        of(17);
        x.clear();
        x.add(1);
        x.add(0);
        x.add(0);
        due(x.judge(), 2);
    }

    private static void aims() {
        of(19);
        CreweChange x = new CreweChange();
        due(x.aim(0, 0), BAD);
        due(x.count(5), 0);
        x.stop(0);
        x.stop(0);
        due(x.aim(0, 1), 0);
        due(x.aim(0, 0), 1);
        due(x.aim(0, 2), BAD);
        due(x.aim(0, -1), BAD);
        due(x.aim(0, NONE), BAD);
        due(x.aim(1, 0), 720);
        due(x.aim(1, 2999), 0);
        due(x.aim(1, 3000), BAD);
        due(x.aim(1, -1), BAD);
        due(x.aim(2, 0), BAD);
        due(x.aim(-1, 0), BAD);
        due(x.count(5), 0);
        due(x.count(6), 2999);
    }

    /** Two ways from 0 to 2: by 1 with a change of 3 minutes, or slow and straight. */
    private static CreweChange threeStops() {
        CreweChange x = withStops(50, 3, 50);
        x.train(0, 1, 600, 10);
        x.train(0, 12, 613, 20);
        x.train(2, 2, 600, 90);
        x.train(0, 12, 700, 20);
        x.aim(0, 2);
        return x;
    }

    private static void means() {
        of(20);
        CreweChange x = threeStops();
        due(x.mean(2, 0), 0);
        due(x.mean(2, 2879), 287900);
        due(x.mean(0, 0), 63300);
        due(x.mean(0, 600), 63300);
        due(x.mean(0, 601), 69100);
        due(x.mean(0, 605), 69500);
        due(x.mean(0, 606), 288000);
        due(x.mean(1, 613), 63300);
        due(x.mean(1, 614), 72000);
        due(x.mean(1, 2879), 288000);
        x.chances(0, 10, 0, 0);
        due(x.mean(0, 600), (90 * 63300 + 10 * 72000) / 100);
        x.chances(0, 33, 0, 0);
        x.chances(3, 1, 0, 0);
        due(x.mean(1, 700), 72005);
        due(x.mean(0, 600), (67 * 63300 + 33 * 72005) / 100);
        x.chances(0, 70, 0, 0);
        due(x.mean(0, 600), 69000);
        // 63390.99 is cut
        x.turns(3, 1);
        x.chances(3, 57, 0, 0);
        x.chances(0, 1, 0, 0);
        due(x.mean(1, 700), 72399);
        due(x.mean(0, 600), 63390);
        x.turns(3, 0);
        x.chances(3, 1, 0, 0);
        x.chances(0, 70, 0, 0);
        due(x.mean(0, 2880), BAD);
        due(x.mean(0, -1), BAD);
        due(x.mean(3, 0), BAD);
        due(x.mean(-1, 0), BAD);
        of(21);
        due(x.taken(0, 600), 2);
        x.chances(0, 0, 0, 0);
        due(x.taken(0, 600), 0);
        due(x.taken(0, 601), 2);
        due(x.taken(0, 606), NONE);
        due(x.taken(1, 0), 1);
        due(x.taken(1, 614), 3);
        due(x.taken(1, 701), NONE);
        due(x.taken(2, 0), NONE);
        due(x.taken(0, 2880), BAD);
        due(x.taken(0, 2879), NONE);
        due(x.taken(3, 0), BAD);
        // one that leads nowhere is still the one that is taken; of several the least
        CreweChange y = withStops(0, 0, 0);
        y.train(0, 12, 600, 1);
        y.train(0, 12, 600, 1);
        due(y.taken(1, 600), 0);
        due(y.mean(1, 600), 288000);
        due(y.taken(2, 600), NONE);
        // it waits: never missed, and later than it would be
        CreweChange z = withStops(0, 0);
        z.train(4, 10, 1439, 600);
        text(z, "tide 200");
        text(z, "waits 99");
        due(z.mean(1, 0), (1559 + 600) * 100);
        due(z.mean(1, 1589), (1589 + 600) * 100);
        due(z.taken(1, 1589), 0);
        due(z.taken(1, 1590), NONE);
        // late by 15, it waits 30: one who comes at 610 leaves at 615, at 620 at 620
        z.turns(0, 0);
        z.set(0, 1, 600);
        z.set(0, 2, 1);
        z.chances(0, 0, 0, 100);
        due(z.mean(1, 610), 61600);
        due(z.mean(1, 620), 62100);
        due(z.mean(1, 630), 63100);
        due(z.mean(1, 631), 288000);
    }

    private static void surest() {
        of(22);
        CreweChange x = threeStops();
        x.aim(1, 650);
        x.chances(0, 30, 0, 0);
        due(x.sure(0, 600), 7000);
        due(x.sure(0, 601), 0);
        x.chances(1, 0, 0, 33);
        due(x.sure(1, 613), 10000);
        x.aim(1, 640);
        due(x.sure(1, 613), 6700);
        due(x.sure(0, 600), 4690);
        x.chances(0, 33, 0, 0);
        due(x.sure(0, 600), 6700 * 67 / 100);
        x.aim(1, 690);
        due(x.sure(0, 600), 10000);
        due(x.sure(0, 601), 0);
        due(x.sure(2, 690), 10000);
        due(x.sure(2, 691), 0);
        due(x.sure(1, 701), 0);
        due(x.sure(0, 2880), BAD);
        due(x.sure(0, -1), BAD);
        due(x.sure(3, 0), BAD);
    }

    private static void cheapest() {
        of(23);
        CreweChange x = threeStops();
        x.set(0, 0, 10);
        x.set(1, 0, 20);
        x.set(2, 0, 35);
        x.set(3, 0, 5);
        due(x.cheap(0, 600), 15);
        x.aim(1, 700);
        due(x.cheap(0, 600), 30);
        due(x.cheap(0, 601), 45);
        x.chances(0, 1, 0, 0);
        due(x.cheap(0, 600), 45);
        x.aim(1, 650);
        due(x.cheap(0, 600), NONE);
        x.aim(1, 720);
        due(x.cheap(0, 600), 15);
        due(x.cheap(2, 720), 0);
        due(x.cheap(2, 721), NONE);
        due(x.cheap(1, 701), NONE);
        due(x.cheap(0, 2880), BAD);
        due(x.cheap(0, -1), BAD);
        due(x.cheap(3, 0), BAD);
        // dearer behind one step than behind another: the greatest counts
        x.set(3, 0, 100);
        x.set(2, 0, 999);
        due(x.cheap(0, 600), 110);
        x.chances(0, 0, 0, 0);
        due(x.cheap(0, 600), 30);
    }

    private static void latest() {
        of(24);
        CreweChange x = threeStops();
        due(x.latest(0, 10000), 605);
        x.aim(1, 650);
        x.chances(0, 30, 0, 0);
        due(x.latest(0, 7000), 600);
        due(x.latest(0, 7001), NONE);
        due(x.latest(0, 0), 1469);
        due(x.latest(2, 0), 1469);
        due(x.latest(2, 1), 650);
        x.aim(1, 2999);
        due(x.latest(2, 10000), 1469);
        due(x.latest(1, 10000), 700);
        due(x.latest(0, 10001), BAD);
        due(x.latest(0, -1), BAD);
        due(x.latest(3, 0), BAD);
        x.turns(3, 4);
        x.set(3, 1, 1439);
        text(x, "tide 120");
        due(x.latest(1, 10000), 1469);
    }

    private static void tape() {
        of(25);
        CreweChange x = new CreweChange();
        for (int i = 1; i <= 8; i++) due(x.feed(0x77616c6b, 0x20313233, 0x20202020), 12 * i);
        due(x.feed(1, 2, 3), FULL);
        due(x.count(9), 96);
        of(26);
        due(x.trim(97), BAD);
        due(x.trim(-1), BAD);
        due(x.trim(85), 85);
        due(x.trim(86), BAD);
        of(25);
        due(x.feed(1, 2, 3), FULL);
        of(26);
        due(x.trim(84), 84);
        due(x.feed(1, 2, 3), 96);
        due(x.trim(8), 8);
        due(x.count(9), 8);
        due(x.text(), 0);
        due(x.count(9), 0);
        due(x.trim(0), 0);
        due(x.trim(1), BAD);
        x.stop(1);
        due(x.walk(0), 99);
    }

    private static void textFaults() {
        of(27);
        CreweChange x = new CreweChange();
        String[] good = {"waits 1", " tide  n + d ", "walk(w)", "walk!w", "waits k<n&n<d|k=d", "walk 0007", "waits (k<n)<d", "waits!(k)"};
        for (int i = 0; i < good.length; i++) due(text(x, good[i]), i);
        due(x.count(2), good.length);
        Object[][] bad = {
            {"", 0}, {"  ", 2}, {"wait 1", 0}, {"xaits 1", 0}, {"wxits 1", 0}, {"waitx 1", 0}, {"tidy n", 0}, {"wall w", 0}, {"waitss 1", 0}, {" 12", 1}, {"(1)", 0}, {"Waits 1", 0}, {"waits", 5}, {"waits  ", 7},
            {"waits1", 5}, {"waitsk", 0}, {"waits k1", 7}, {"waits 1k", 7}, {"waits 1 2", 8}, {"waits k k", 8}, {"waits 12345", 6},
            {"waits 00001", 6}, {"waits s", 6}, {"waits w", 6}, {"tide k", 5}, {"walk k", 5}, {"walk n", 5}, {"waits kn", 6},
            {"waits 1+", 8}, {"waits 1+ ", 9}, {"waits +1", 6}, {"waits -1", 6}, {"waits (1", 8}, {"waits (1))", 9}, {"waits 1)", 7},
            {"waits ()", 7}, {"waits 1<2<3", 9}, {"waits 1<2=3", 9}, {"waits (1<2<3)", 10}, {"waits 1&&2", 8}, {"waits 1!", 7},
            {"waits 1\t", 7}, {"waits\t1", 5}, {"waits 1+K", 8}, {"waits 1 ! 2", 8}, {"waits !", 7}, {"waits 1%2", 7}, {"waits 1\u00e9", 7},
            {"waits waits", 6}, {"walk w(1)", 6}, {"walk 1(w)", 6}, {"walk w!w", 6}, {"waits 1<", 8}, {"waits 1\u0000", 7}};
        for (Object[] b : bad) due(text(x, (String) b[0]), -100 - (Integer) b[1]);
        due(x.count(2), good.length);
        StringBuilder all = new StringBuilder("walk w");
        while (all.length() < 96) all.append("+1");
        due(text(x, all.toString()), 8);
        due(x.textTold(8, 1), 46);
        due(text(x, all.substring(0, 95)), -195);
        all.setCharAt(95, '+');
        due(text(x, all.toString()), -195);
        for (int i = 9; i < 14; i++) due(text(x, "tide n"), i);
        due(text(x, "tide n"), FULL);
        due(x.count(9), 0);
        due(text(x, "tide ?"), -105);
        due(x.count(9), 0);
        due(x.count(2), 14);
    }

    private static void textDepths() {
        of(27);
        CreweChange x = withStops(0);
        due(text(x, "walk ((((((((7))))))))"), 0);
        due(x.walk(0), 7);
        due(text(x, "walk (((((((((7)))))))))"), -113);
        due(text(x, "walk !!!!!!!!7"), 1);
        due(x.walk(0), 1);
        due(text(x, "walk !!!!!!!!!7"), -113);
        due(text(x, "walk !(!(!(!(!(!(!(!(1))))))))"), 2);
        due(text(x, "walk !(!(!(!(!(!(!(!(!1))))))))"), -121);
        due(text(x, "walk !(!(!(!(!(!(!(!((1"), -121);
        due(text(x, "walk !!!!!!!!1+!!!!!!!!1"), 3);
        due(text(x, "walk ((((((((1))))))))*((((((((1))))))))"), 4);
        due(text(x, "walk !!!!(!!!!1+!!!!1)"), 5);
        due(text(x, "walk !!!!(!!!!1+!!!!!1)"), -120);
        due(text(x, "walk (!1)+!!!!!!!!1"), 6);
    }

    private static void textWorths() {
        of(27);
        Object[][] rows = {
            {"3+4*5", 23}, {"(3+4)*5", 35}, {"20-3-4", 13}, {"20/3/2", 3}, {"20/3*2", 12}, {"7-9+5", 3}, {"50/0+4", 4}, {"(0-7)/2+9", 6},
            {"1<2", 1}, {"2<1", 0}, {"2<2", 0}, {"2=2", 1}, {"2=1", 0}, {"2>1", 1}, {"2>2", 0}, {"1+1=2", 1}, {"5&0", 0}, {"5&7", 1},
            {"0|9", 1}, {"0|0", 0}, {"1|0&0", 1}, {"(1|0)&0", 0}, {"!0", 1}, {"!5", 0}, {"!!5", 1}, {"!0+4", 5}, {"!5*8+3", 3}, {"2&1<0", 0},
            {"9999*9999*99*9", 0}, {"9999*9999*45", 99}, {"9999*9999*30", 0}, {"0-5", 0}, {"100", 99}, {"99", 99}, {"1=1=0|7", -1}, {"(1=1)=0|7", 1}, {"5", 5}, {"(5|0)+3", 4},
            {"1+2<4&5", 1}, {"2*3>5|0", 1}, {"9999*9999*9999*9999/9999", -2}};
        for (Object[] row : rows) {
            CreweChange x = withStops(0);
            int due = (Integer) row[1];
            int told = text(x, "walk " + row[0]);
            if (due == -1) due(told, -108);
            else if (due == -2) due(x.walk(0), Math.max(0, Math.min(99, 9999 * 9999 * 9999 * 9999 / 9999)));
            else due(x.walk(0), due);
        }
        // the least int by -1 wraps: 2 to the 31st is 65536 * 32768
        CreweChange x = withStops(0);
        text(x, "walk (8192*8*8192*4)/(0-1)<0");
        due(x.walk(0), 1);
        of(3);
        CreweChange y = withStops(10, 20);
        text(y, "walk s*50+w+d");
        y.day(3);
        due(y.walk(0), 13);
        due(y.walk(1), 73);
    }

    private static void textKeys() {
        CreweChange x = withStops(0, 0);
        x.train(3, 1, 100, 5);
        x.train(4, 1, 100, 5);
        of(28);
        due(text(x, "walk w+1+22+s"), 0);
        due(text(x, "waits (k)"), 1);
        due(text(x, "tide !n&d"), 2);
        due(x.textTold(0, 0), 2);
        due(x.textTold(1, 0), 0);
        due(x.textTold(2, 0), 1);
        due(x.textTold(0, 1), 4);
        due(x.textTold(1, 1), 1);
        due(x.textTold(2, 1), 2);
        due(x.textTold(3, 0), BAD);
        due(x.textTold(-1, 0), BAD);
        due(x.textTold(0, 2), BAD);
        due(x.textTold(0, -1), BAD);
        of(29);
        due(x.why(0), 1);
        due(x.why(1), 2);
        due(x.why(2), 0);
        due(x.why(3), BAD);
        due(x.why(-1), BAD);
        due(x.told(0, 8), 3);
        due(text(x, "waits n+7"), 3);
        due(x.why(0), 3);
        due(x.told(0, 8), 7);
        due(x.told(1, 8), 8);
        text(x, "waits ?");
        due(x.why(0), 3);
    }

    private static void guests() {
        CreweChange x = threeStops();
        of(32);
        due(x.gather(0), NONE);
        due(x.gather(1), NONE);
        due(x.gather(2), BAD);
        of(30);
        due(x.guest(0, 600), 0);
        due(x.guest(1, 614), 1);
        due(x.guest(2, 5), 2);
        due(x.guest(1, 620), 3);
        due(x.guest(3, 0), BAD);
        due(x.guest(-1, 0), BAD);
        due(x.guest(0, -1), BAD);
        due(x.guest(0, 1440), BAD);
        of(32);
        due(x.gather(0), 72000);
        due(x.gather(1), 1);
        due(x.gather(-1), BAD);
        x.set(3, 1, 690);
        due(x.gather(0), 71000);
        of(30);
        due(x.guest(0, 1439), 4);
        for (int i = 5; i < 10; i++) due(x.guest(0, 1439), i);
        due(x.guest(0, 0), FULL);
        due(x.guest(0, 1440), BAD);
        due(x.count(4), 10);
        of(32);
        due(x.gather(0), 288000);
        due(x.gather(1), 4);
        of(31);
        due(x.part(), 10);
        due(x.part(), 0);
        due(x.count(4), 0);
        due(x.guest(2, 7), 0);
        of(32);
        due(x.gather(0), 700);
        due(x.gather(1), 0);
    }

    private static int drawn(int z) {
        return z * 1103515245 + 12345;
    }

    private static void rides() {
        of(34);
        CreweChange x = withStops(9, 9);
        x.train(0, 10, 600, 1);
        due(x.seed(77), 1);
        due(x.seed(Integer.MIN_VALUE), 77);
        due(x.count(10), Integer.MIN_VALUE);
        of(33);
        x.chances(0, 25, 25, 25);
        int z = -5;
        x.seed(z);
        for (int i = 0; i < 40; i++) {
            z = drawn(z);
            due(x.ride(1, 590), 601 + 5 * ((z >>> 8) % 100 / 25));
            due(x.count(10), z);
        }
        due(x.ride(1, 601), 2880);
        due(x.ride(0, 2879), 2879);
        due(x.ride(0, 0), 0);
        due(x.ride(1, 2879), 2880);
        due(x.ride(1, 2880), BAD);
        due(x.ride(1, -1), BAD);
        due(x.ride(2, 0), BAD);
        due(x.count(10), z);
        // steps without chances are passed over
        x.chances(0, 0, 100, 0);
        due(x.ride(1, 600), 611);
        x.chances(0, 0, 0, 100);
        due(x.ride(1, 600), 616);
        // one draw for each train, and the walk between them
        CreweChange y = withStops(9, 4, 9);
        y.train(0, 1, 600, 10);
        y.train(2, 12, 614, 10);
        y.aim(0, 2);
        due(y.ride(0, 600), 624);
        due(y.count(10), drawn(drawn(1)));
        y.set(1, 1, 608);
        due(y.ride(0, 600), 2880);
        due(y.count(10), drawn(drawn(drawn(1))));
        y.set(1, 1, 610);
        due(y.ride(0, 600), 624);
    }

    private static void sheets() {
        of(35);
        CreweChange x = new CreweChange();
        due(x.sheet(0, 0, 24), 24);
        due(x.sheet(3, 1, 0), 0);
        due(x.sheet(0, 0, 25), BAD);
        due(x.sheet(0, 0, -1), SIZE);
        due(x.sheet(0, 1, Integer.MIN_VALUE), SIZE);
        due(x.sheet(0, 2, 1), BAD);
        due(x.sheet(0, -2, -1), BAD);
        due(x.sheet(4, 0, 1), BAD);
        due(x.sheet(-1, 0, -1), BAD);
        due(x.mark(0, 23, 1), 1);
        due(x.sheet(0, -1, 77), 0);
        due(x.mark(0, 23, 1), NOTHING);
        due(x.sheet(1, -1, -5), 0);
        of(36);
        due(x.mark(4, 0, 0), BAD);
        due(x.mark(-1, 0, 0), BAD);
        due(x.mark(2, 0, 0), NOTHING);
        due(x.mark(3, 0, 0), INDEX);
        x.sheet(0, 0, 2);
        x.sheet(1, 1, 2);
        due(x.mark(0, 2, NONE), INDEX);
        due(x.mark(0, -1, 5), INDEX);
        due(x.mark(0, 0, NONE), KIND);
        due(x.mark(0, 0, 65536 + 40000), 1);
        due(x.mark(1, 2, 100000), INDEX);
        due(x.mark(1, 0, 100000), BAD);
        due(x.mark(1, 0, -100000), BAD);
        due(x.mark(1, 0, -99999), 1);
        due(x.mark(1, 1, 99999), 1);
        x.lay(0, 2, 0);
        x.lay(1, 2, 1);
        due(x.item(0, 0), 40000 - 65536);
        due(x.item(0, 1), 0);
        due(x.item(1, 0), -99999);
        due(x.item(1, 1), 99999);
        due(x.mark(1, 1, NONE), 1);
        x.lay(1, 2, 1);
        due(x.item(1, 1), KIND);
        x.sheet(1, 1, 2);
        x.lay(1, 2, 1);
        due(x.item(1, 1), 0);
    }

    private static void pourAndReads() {
        CreweChange x = withStops(0, 0);
        x.train(1, 1, 600, 10);
        of(37);
        x.sheet(0, 1, 3);
        x.sheet(1, 0, 2);
        due(x.pour(4, 0), BAD);
        due(x.pour(-1, 0), BAD);
        due(x.pour(0, 1), BAD);
        due(x.pour(2, 1), BAD);
        due(x.pour(2, 0), NOTHING);
        due(x.pour(1, 0), INDEX);
        for (int i = 0; i < 3; i++) x.mark(0, i, 10 * i + 10);
        due(x.pour(0, 0), 40);
        for (int i = 0; i < 4; i++) due(x.told(0, 10 + i), new int[] {40, 10, 20, 30}[i]);
        x.mark(0, 2, NONE);
        due(x.pour(0, 0), KIND);
        x.mark(0, 0, 101);
        due(x.pour(0, 0), KIND);
        for (int i = 0; i < 2; i++) {
            x.sheet(0, 1, 3);
            x.mark(0, i, NONE);
            due(x.pour(0, 0), KIND);
        }
        x.mark(0, 1, 101);
        due(x.pour(0, 0), BAD);
        x.mark(0, 1, 1);
        x.mark(0, 0, -1);
        due(x.pour(0, 0), BAD);
        due(x.told(0, 10), 40);
        due(x.told(0, 17), 631);
        of(38);
        x.sheet(2, 0, 5);
        due(x.reads(4, 0), BAD);
        due(x.reads(2, 1), BAD);
        due(x.reads(3, 1), BAD);
        due(x.reads(3, 0), NOTHING);
        int[] there = {610, 617, 624, 631};
        for (int i = 0; i < 4; i++) {
            due(x.reads(2, 0), i);
            x.mark(2, i, there[i]);
        }
        due(x.reads(2, 0), 4);
        x.sheet(2, 1, 6);
        for (int i = 0; i < 6; i++) x.mark(2, i, NONE);
        due(x.reads(2, 0), NONE);
        x.mark(2, 5, 610);
        due(x.reads(2, 0), 5);
        x.mark(2, 2, 624);
        due(x.reads(2, 0), 5);
        x.mark(2, 1, 616);
        due(x.reads(2, 0), 1);
        x.sheet(2, 0, 0);
        due(x.reads(2, 0), NONE);
        // place 4 is no step, not even of the next train
        x.train(1, 1, 700, 10);
        x.sheet(2, 0, 5);
        for (int i = 0; i < 4; i++) x.mark(2, i, there[i]);
        x.mark(2, 4, 710);
        due(x.reads(2, 0), 4);
        x.set(0, 1, 601);
        due(x.reads(2, 0), 0);
    }

    private static void copies() {
        of(39);
        CreweChange x = new CreweChange();
        x.sheet(0, 0, 5);
        x.sheet(1, 0, 3);
        x.sheet(2, 1, 5);
        for (int i = 0; i < 5; i++) x.mark(0, i, i + 1);
        due(x.copy(4, 0, 0, 0, 0), BAD);
        due(x.copy(0, 0, -1, 0, 0), BAD);
        due(x.copy(3, 0, 4, 0, 0), BAD);
        due(x.copy(3, 0, 0, 0, 1), NOTHING);
        due(x.copy(0, 0, 3, 0, 1), NOTHING);
        due(x.copy(0, 9, 2, 9, 9), KIND);
        int[][] none = {{-1, 0, 1}, {0, -1, 1}, {0, 0, -1}, {5, 0, 1}, {0, 3, 1}, {0, 0, 4}, {3, 0, 3}, {6, 0, 0}, {0, 4, 0},
            {1, 0, Integer.MAX_VALUE}, {Integer.MAX_VALUE, 0, 1}, {Integer.MAX_VALUE, 0, Integer.MAX_VALUE}};
        for (int[] n : none) due(x.copy(0, n[0], 1, n[1], n[2]), INDEX);
        due(x.copy(0, 5, 1, 3, 0), 0);
        due(x.copy(0, 2, 1, 0, 3), 3);
        x.lay(0, 2, 1);
        for (int i = 0; i < 3; i++) due(x.item(0, i), i + 3);
        due(x.copy(0, 0, 0, 1, 4), 4);
        x.lay(0, 2, 0);
        for (int i = 0; i < 5; i++) due(x.item(0, i), i == 0 ? 1 : i);
        due(x.copy(0, 2, 0, 0, 3), 3);
        x.lay(0, 2, 0);
        for (int i = 0; i < 5; i++) due(x.item(0, i), new int[] {2, 3, 4, 3, 4}[i]);
        x.sheet(3, 1, 2);
        x.mark(3, 1, NONE);
        due(x.copy(3, 0, 2, 0, 2), 2);
        x.lay(0, 2, 2);
        due(x.item(0, 0), 0);
        due(x.item(0, 1), KIND);
    }

    private static void slots() {
        CreweChange x = withStops(0, 0);
        for (int kind = 0; kind < 6; kind++) x.train(kind, 1, 600, 10);
        for (int i = 0; i < 6; i++) x.set(i, 0, 31);
        x.sheet(0, 0, 1);
        of(40);
        due(x.lay(5, 0, 0), BAD);
        due(x.lay(-1, 0, 0), BAD);
        due(x.lay(0, 4, 0), BAD);
        due(x.lay(0, -1, 0), BAD);
        due(x.lay(0, 1, 6), BAD);
        due(x.lay(0, 1, -1), BAD);
        due(x.lay(0, 2, 4), BAD);
        due(x.lay(0, 2, -1), BAD);
        due(x.lay(0, 2, 1), NOTHING);
        due(x.lay(0, 1, 5), 0);
        due(x.lay(0, 2, 0), 1);
        due(x.lay(0, 3, NONE), 2);
        due(x.lay(0, 2, 1), NOTHING);
        due(x.lay(0, 0, -77), 3);
        due(x.lay(0, 0, 0), 0);
        of(41);
        due(x.ask(0, 0), NOTHING);
        due(x.ask(0, 6), BAD);
        due(x.ask(0, -1), BAD);
        due(x.ask(5, 0), BAD);
        String[] under = {"0", "01", "02", "013", "024", "05"};
        int[] fare = {31, 15, 41, 15, 82, 31};
        for (int i = 0; i < 6; i++) {
            x.lay(i % 5, 1, i);
            for (int kind = 0; kind < 6; kind++) due(x.ask(i % 5, kind), under[i].indexOf('0' + kind) >= 0 ? fare[i] : KIND);
        }
        x.lay(0, 3, 5);
        due(x.ask(0, 0), KIND);
        x.lay(0, 2, 0);
        due(x.ask(0, 0), KIND);
        of(42);
        due(x.item(5, 0), BAD);
        due(x.item(-1, 0), BAD);
        due(x.item(0, 0), 0);
        due(x.item(0, 1), INDEX);
        due(x.item(0, -1), INDEX);
        due(x.item(1, 0), KIND);
        x.lay(1, 0, 0);
        due(x.item(1, 9), NOTHING);
        of(43);
        due(x.rest(5, 1), BAD);
        due(x.rest(-1, 0), BAD);
        due(x.rest(1, 0), NOTHING);
        due(x.rest(0, 0), KIND);
        due(x.rest(2, 0), KIND);
        x.lay(1, 3, 17);
        due(x.rest(1, 5), 2);
        due(x.rest(1, -5), 2);
        due(x.rest(1, 0), NO);
        x.lay(1, 3, Integer.MIN_VALUE);
        due(x.rest(1, -1), 0);
        due(x.rest(1, 10), -8);
    }

    private static void slotsStay() {
        of(40);
        CreweChange x = withStops(0, 0);
        x.train(2, 1, 600, 10);
        x.sheet(0, 0, 2);
        x.mark(0, 1, 5);
        x.lay(0, 1, 0);
        x.lay(1, 2, 0);
        x.turns(0, 4);
        x.set(0, 0, 500);
        x.mark(0, 1, 6);
        x.sheet(0, 1, 9);
        due(x.ask(0, 2), 10);
        due(x.ask(0, 4), KIND);
        due(x.item(1, 1), 5);
        due(x.item(1, 2), INDEX);
        x.keep();
        x.lay(0, 1, 0);
        x.set(0, 0, 0);
        x.back();
        due(x.ask(0, 4), 1020);
    }

    private static void rows() {
        CreweChange x = withStops(9, 9);
        x.train(0, 10, 600, 1);
        x.chances(0, 50, 0, 0);
        of(45);
        x.tell(1);
        due(x.check(1), NO);
        due(x.count(8), 0);
        x.keep();
        x.tell(1);
        due(x.check(1), NO);
        due(x.count(8), 0);
        x.tell(1);
        due(x.check(0), BAD);
        due(x.count(8), 0);
        due(x.check(31), BAD);
        of(44);
        for (int i = 1; i <= 60; i++) due(x.tell(i), i);
        due(x.tell(61), FULL);
        due(x.count(8), 60);
        x.check(1);
        due(x.tell(0), 1);
        x.check(1);
        of(45);
        x.guest(1, 590);
        x.guest(0, 5);
        x.guest(1, 601);
        x.seed(4);
        x.keep();
        x.seed(999);
        x.part();
        x.set(0, 1, 100);
        int first = 601 + ((drawn(4) >>> 8) % 100 < 50 ? 0 : 5);
        int fourth = 601 + ((drawn(drawn(4)) >>> 8) % 100 < 50 ? 0 : 5);
        int[] told = {first, 1, 5, 0, 2880, 0, fourth, 1};
        for (int again = 0; again < 2; again++) {
            for (int v : told) x.tell(v);
            due(x.check(4), 0);
        }
        for (int spoiled = 0; spoiled < 8; spoiled++) {
            for (int i = 0; i < 8; i++) x.tell(i == spoiled ? told[i] + 1 : told[i]);
            due(x.check(4), 1 + spoiled);
            for (int i = 0; i < spoiled; i++) x.tell(told[i]);
            due(x.check(4), 1 + spoiled);
        }
        for (int v : told) x.tell(v);
        x.tell(0);
        due(x.check(4), 9);
        for (int v : told) x.tell(v);
        due(x.check(3), 7);
        for (int i = 0; i < 60; i++) x.tell(i % 6 == 2 ? 5 : i % 6 == 4 ? 2880 : i % 6 == 1 ? 1 : 0);
        due(x.check(30), 1);
        due(x.count(10), 999);
        due(x.count(4), 0);
        due(x.told(0, 3), 100);
        due(x.count(8), 0);
    }

    private static void images() {
        CreweChange x = threeStops();
        of(47);
        due(x.back(), NO);
        of(46);
        due(x.keep(), 4);
        x.guest(0, 600);
        x.add(0);
        x.add(1);
        x.day(8);
        x.aim(1, 800);
        x.seed(55);
        text(x, "waits 0");
        x.hangs(1, 0);
        x.chances(2, 1, 2, 3);
        x.set(2, 0, 7);
        due(x.mean(0, 605), 288000);
        due(x.keep(), 4);
        // what is not kept
        x.tell(3);
        x.sheet(0, 0, 1);
        x.lay(0, 3, 12);
        feed(x, "walk");
        // what is
        x.part();
        x.clear();
        x.day(9);
        x.aim(0, 1);
        x.aim(1, 5);
        x.seed(6);
        text(x, "tide 3");
        text(x, "waits 9");
        feed(x, "walk");
        x.stop(1);
        x.train(5, 3, 1, 1);
        x.turns(0, 1);
        x.set(2, 0, 8);
        x.set(2, 1, 9);
        x.set(2, 2, 10);
        x.hangs(1, NONE);
        x.chances(2, 0, 0, 0);
        due(x.keep(), 5);
        of(47);
        due(x.back(), 5);
        due(x.count(0), 4);
        CreweChange y = threeStops();
        y.guest(0, 600);
        y.add(0);
        y.add(1);
        y.day(8);
        y.aim(1, 800);
        y.seed(55);
        text(y, "waits 0");
        y.hangs(1, 0);
        y.chances(2, 1, 2, 3);
        y.set(2, 0, 7);
        y.keep();
        for (int again = 0; again < 2; again++) {
            y.tell(3);
            feed(y, "walk");
            y.part();
            y.clear();
            y.add(2);
            y.add(2);
            y.day(9);
            y.aim(0, 1);
            y.aim(1, 5);
            y.seed(6);
            y.stop(1);
            y.train(5, 3, 1, 1);
            y.set(4, 0, 9);
            y.chances(4, 100, 0, 0);
            y.hangs(4, 0);
            y.turns(0, 1);
            y.set(2, 0, 8);
            y.set(2, 1, 9);
            y.set(2, 2, 10);
            y.hangs(1, NONE);
            y.chances(2, 0, 0, 0);
            due(y.back(), 4);
            int[] all = {3, 4, 1, 2, 1, 2, 800, 8, again + 1, 4, 55};
            of(48);
            for (int what = 0; what <= 10; what++) due(y.count(what), all[what]);
            of(47);
            int[] second = {2, 0, 2, 600, 90, 7, NONE, 600, 0, 17, 94, 1, 2, 3, 690, 690, 690, 690};
            for (int what = 0; what < 18; what++) due(y.told(2, what), second[what]);
            due(y.told(0, 0), 0);
            due(y.told(1, 6), 0);
            due(y.mean(0, 600), 63300);
            due(y.judge(), NONE);
            due(y.plan(0), 10000);
            due(y.plan(1), 6330000);
            due(y.gather(1), 0);
            due(y.walk(1), 3);
            due(y.trim(0), 0);
        }
        // a train that comes where one was before the image is a new one
        due(y.stop(1), 3);
        due(y.train(5, 3, 1, 1), 4);
        int[] fifth = {5, 0, 3, 1, 1, 0, NONE, 1, 0, 0, 100, 0, 0, 0, 2, 7, 12, 17};
        for (int what = 0; what < 18; what++) due(y.told(4, what), fifth[what]);
        of(48);
        due(y.count(11), BAD);
        due(y.count(-1), BAD);
        // an image of less
        CreweChange z = new CreweChange();
        of(46);
        due(z.keep(), 0);
        z.stop(5);
        of(47);
        due(z.back(), 0);
        due(z.count(0), 0);
        due(z.mean(0, 0), BAD);
    }

    private static void refusalsChangeNothing() {
        of(0);
        CreweChange x = threeStops();
        x.keep();
        int before = x.mean(0, 600);
        x.set(0, 1, 1440);
        x.set(0, 2, 0);
        x.chances(0, 101, 0, 0);
        x.hangs(0, 1);
        x.turns(0, 9);
        x.day(-1);
        x.aim(0, 9);
        x.aim(1, -1);
        x.train(0, 99, 0, 1);
        x.stop(-1);
        x.guest(9, 0);
        x.add(9);
        x.pour(0, 0);
        text(x, "tide ?");
        due(x.mean(0, 600), before);
        int[] all = {3, 4, 0, 0, 0, 2, 720, 0, 0, 0, 1};
        for (int what = 0; what <= 10; what++) due(x.count(what), all[what]);
        due(x.told(0, 3), 600);
        due(x.told(0, 10), 100);
    }

    /** Twelve trains, each of which waits 30 minutes, none while another one does. */
    private static void everyMinuteCounts() {
        of(20);
        CreweChange x = withStops(0, 0);
        for (int i = 0; i < 12; i++) x.train(i == 0 ? 0 : 1, 10, 100 * i, 1 + i);
        text(x, "waits 30");
        for (int i = 0; i < 12; i++) {
            due(x.mean(1, i == 0 ? 0 : 100 * i - 69), 100 * (100 * i + 1 + i));
            for (int wait = 0; wait <= 30; wait++) due(x.mean(1, 100 * i + wait), 100 * (100 * i + wait + 1 + i));
        }
        due(x.mean(1, 1131), 288000);
        of(21);
        due(x.taken(1, 30), 0);
        due(x.taken(1, 31), 1);
        due(x.taken(1, 1130), 11);
        of(24);
        due(x.latest(1, 10000), 720 - 8);
        x.aim(1, 1);
        due(x.latest(1, 10000), 0);
        x.aim(1, 0);
        due(x.latest(1, 1), NONE);
        text(x, "waits 0");
        x.aim(1, 1);
        due(x.latest(1, 10000), 0);
        of(20);
        due(x.mean(1, 0), 100);
        due(x.mean(1, 1), 10200);
        // there and back again, a minute each, as long as they wait
        CreweChange y = withStops(50, 0, 0);
        y.train(0, 12, 600, 1);
        y.train(0, 21, 600, 1);
        y.train(0, 10, 600, 1);
        text(y, "waits (n<2)*30");
        due(y.mean(1, 600), 60100);
        due(y.mean(2, 600), 288000);
        of(33);
        // to go there and back first is as good: of several the least is taken
        y.set(2, 1, 1439);
        due(y.taken(1, 600), 0);
        due(y.taken(1, 630), 2);
        text(y, "walk 0");
        text(y, "waits (n<2)*30+n/2*5");
        due(y.mean(2, 600), 144000);
        due(y.ride(2, 600), 1440);
        of(23);
        y.aim(1, 1500);
        due(y.cheap(2, 600), 0);
        y.set(1, 0, 3);
        due(y.cheap(2, 600), 3);
        due(y.cheap(2, 631), NONE);
    }

    /** What has been worked out for one call must not stand when something has changed. */
    private static void askedAgainAfterChanges() {
        of(3);
        CreweChange x = withStops(5);
        due(x.walk(0), 5);
        x.stop(7);
        due(x.walk(1), 7);
        x.stop(9);
        of(12);
        x.train(0, 12, 600, 10);
        due(x.told(0, 14), 610);
        x.train(3, 20, 619, 10);
        due(x.makes(0, 1), 10000);
        x.set(1, 1, 618);
        due(x.makes(0, 1), 0);
        of(13);
        due(x.never(0), 1);
        x.set(1, 1, 619);
        due(x.never(0), 0);
        of(10);
        due(x.told(1, 17), 650);
        x.hangs(1, 0);
        due(x.told(1, 17), 657);
        x.turns(0, 2);
        due(x.told(1, 17), 650);
        x.turns(0, 1);
        due(x.told(1, 17), 660);
        of(20);
        due(x.mean(1, 600), 62900);
        x.chances(1, 0, 0, 100);
        due(x.mean(1, 600), 66000);
        x.sheet(0, 0, 3);
        x.pour(0, 1);
        due(x.mean(1, 600), 62900);
        x.set(1, 2, 20);
        due(x.mean(1, 600), 63900);
        x.aim(0, 2);
        due(x.mean(1, 600), 61000);
        of(22);
        due(x.sure(1, 600), 10000);
        x.aim(1, 609);
        due(x.sure(1, 600), 0);
        of(23);
        due(x.cheap(1, 600), NONE);
        x.aim(1, 610);
        due(x.cheap(1, 600), 0);
        x.set(0, 0, 9);
        due(x.cheap(1, 600), 4);
        of(27);
        due(x.taken(1, 601), NONE);
        text(x, "waits d");
        due(x.taken(1, 601), NONE);
        of(11);
        x.day(1);
        due(x.taken(1, 601), 0);
        of(47);
        x.keep();
        x.day(0);
        due(x.taken(1, 601), NONE);
        x.back();
        due(x.taken(1, 601), 0);
        x.day(0);
        due(x.taken(1, 601), NONE);
        due(x.mean(1, 600), 61000);
    }

    /** The rides told go by the image's walks, texts and trains, not by those of now. */
    private static void imagesRide() {
        of(45);
        CreweChange x = withStops(9, 4, 9);
        x.train(0, 1, 600, 10);
        x.train(2, 12, 608, 10);
        text(x, "walk w-1");
        text(x, "waits k*2+d");
        x.day(1);
        x.aim(0, 2);
        x.guest(0, 600);
        x.keep();
        due(x.check(1), 1);
        x.tell(623);
        due(x.check(1), 2);
        x.tell(623);
        x.tell(2);
        due(x.check(1), 0);
        text(x, "walk 99");
        text(x, "waits 0");
        x.day(0);
        x.aim(0, 1);
        x.set(1, 1, 5);
        due(x.mean(0, 600), 61000);
        x.tell(623);
        x.tell(2);
        due(x.check(1), 0);
        due(x.mean(0, 600), 61000);
        due(x.mean(1, 600), 60000);
        of(47);
        x.back();
        due(x.mean(0, 600), 62300);
        due(x.why(2), 0);
        due(x.walk(0), 8);
        // one more ride than is told, and one less
        x.seed(9);
        x.guest(2, 7);
        x.keep();
        of(45);
        int[] told = {623, 2, 7, 0, 623, 2, 7, 0};
        for (int n = 1; n <= 4; n++) {
            for (int v : told) x.tell(v);
            due(x.check(n), n == 4 ? 0 : 2 * n + 1);
            for (int i = 0; i < 2 * n; i++) x.tell(told[i]);
            due(x.check(4), n == 4 ? 0 : 2 * n + 1);
        }
    }
}
