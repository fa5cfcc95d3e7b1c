/** The edges of promises 19 to 24, each sentence by itself. */
public final class EdgesWhatToDoTest extends Edge {
    public static void main(String[] args) {
        aim();
        points();
        mean();
        meanIsCut();
        mayTake();
        leavesWithOne();
        walksOn();
        everyMinute();
        taken();
        sure();
        sureByParts();
        cheap();
        cheapByParts();
        latest();
        latestByParts();
        end(19, 24);
    }

    /** From 0 to 2: by 1 with a change of 3 minutes, or slow and straight by a boat that waits 5 minutes. */
    private static CreweChange threeStops() {
        CreweChange x = withStops(50, 3, 50);
        x.train(0, 1, 600, 10);
        x.train(0, 12, 613, 20);
        x.train(2, 2, 600, 90);
        x.train(0, 12, 700, 20);
        x.aim(0, 2);
        return x;
    }

    /** One train from 1 to THE GOAL, 0. */
    private static CreweChange oneTrain(int kind, int leave, int takes) {
        CreweChange x = withStops(50, 50);
        x.train(kind, 10, leave, takes);
        return x;
    }

    private static void aim() {
        of(19, "THE GOAL: a STOP, the last there is and the first there is not");
        CreweChange x = withStops(0, 0, 0, 0, 0, 0);
        due(x.aim(0, 5), 0);
        due(x.aim(0, 0), 5);
        due(x.aim(0, 0), 0);
        due(x.aim(0, 6), BAD);
        due(x.count(5), 0);
        refused(Edge::crewe, BAD, y -> y.aim(0, -1), y -> y.aim(0, 3), y -> y.aim(0, LEAST), y -> y.aim(0, MOST), y -> y.aim(0, NONE));
        of(19, "without STOPS there is none to aim at");
        CreweChange none = new CreweChange();
        due(none.aim(0, 0), BAD);
        due(none.aim(1, 5), 720);
        due(none.count(5), 0);
        of(19, "NOON 0 .. 2999");
        due(x.aim(1, 0), 720);
        due(x.aim(1, 2999), 0);
        due(x.aim(1, 1), 2999);
        refused(Edge::crewe, BAD, y -> y.aim(1, -1), y -> y.aim(1, 3000), y -> y.aim(1, LEAST), y -> y.aim(1, MOST));
        of(19, "what 0, 1");
        refused(Edge::crewe, BAD, y -> y.aim(-1, 0), y -> y.aim(2, 0), y -> y.aim(LEAST, 0), y -> y.aim(MOST, 0));
        of(19, "one of them alone becomes v");
        due(x.aim(0, 3), 0);
        due(x.count(6), 1);
        due(x.aim(1, 4), 1);
        due(x.count(5), 3);
    }

    private static void points() {
        for (int promise = 20; promise <= 23; promise++) {
            int which = promise;
            of(which, "a STOP that there is, a minute 0 .. 2879");
            Call[] bad = {y -> point(which, y, -1, 600), y -> point(which, y, 3, 600), y -> point(which, y, 0, -1), y -> point(which, y, 0, 2880),
                y -> point(which, y, 2, 2880), y -> point(which, y, LEAST, 0), y -> point(which, y, MOST, 0), y -> point(which, y, 0, LEAST), y -> point(which, y, 0, MOST)};
            refused(Edge::crewe, BAD, bad);
            due(point(which, new CreweChange(), 0, 0), BAD);
        }
        CreweChange x = threeStops();
        long[][] first = {{63300, 0}, {0, NONE}, {288000, NONE}, {287900, NONE}};
        int[][] at = {{0, 0}, {2, 0}, {0, 2879}, {2, 2879}};
        for (int i = 0; i < 4; i++) {
            of(20, "minutes 0 and 2879");
            due(x.mean(at[i][0], at[i][1]), first[i][0]);
            of(21, "minutes 0 and 2879");
            due(x.taken(at[i][0], at[i][1]), first[i][1]);
        }
        of(22, "minutes 0 and 2879");
        due(x.sure(0, 0), 10000);
        due(x.sure(2, 0), 10000);
        due(x.sure(0, 2879), 0);
        due(x.sure(2, 2879), 0);
        x.aim(1, 2879);
        due(x.sure(2, 2879), 10000);
        of(23, "minutes 0 and 2879");
        due(x.cheap(0, 0), 0);
        due(x.cheap(0, 2879), NONE);
        due(x.cheap(2, 2879), 0);
        x.aim(1, 2878);
        due(x.cheap(2, 2879), NONE);
    }

    private static long point(int promise, CreweChange x, int stop, int minute) {
        switch (promise) {
            case 20: return x.mean(stop, minute);
            case 21: return x.taken(stop, minute);
            case 22: return x.sure(stop, minute);
            default: return x.cheap(stop, minute);
        }
    }

    private static void mean() {
        of(20, "at THE GOAL 100 times the minute, though trains leave from there");
        CreweChange x = withStops(5, 5);
        x.train(0, 1, 100, 1);
        x.train(0, 10, 300, 1);
        int[] minutes = {0, 1, 99, 100, 101, 1439, 1440, 2879};
        for (int minute : minutes) due(x.mean(0, minute), 100 * minute);
        of(20, "without a TRAIN that one MAY take: 288000");
        due(x.mean(1, 301), 288000);
        due(withStops(0, 0).mean(1, 0), 288000);
        of(20, "from where all that one may take lead nowhere: 288000");
        CreweChange y = withStops(0, 0, 0);
        y.train(0, 12, 100, 1);
        due(y.mean(1, 100), 288000);
        y.train(0, 20, 50, 1);
        due(y.mean(1, 100), 288000);
        y.set(1, 1, 101);
        due(y.mean(1, 100), 10200);
        of(20, "the least of several");
        CreweChange z = threeStops();
        due(z.mean(0, 600), 63300);
        z.set(2, 2, 33);
        due(z.mean(0, 600), 63300);
        z.set(2, 2, 32);
        due(z.mean(0, 600), 63200);
        of(20, "one that can lead nowhere weighs 288000 by its CHANCES");
        CreweChange u = threeStops();
        u.set(3, 1, 0);
        u.set(2, 2, 600);
        u.chances(0, 1, 0, 0);
        due(u.mean(0, 600), (99 * 63300 + 288000) / 100);
        u.chances(0, 0, 0, 100);
        due(u.mean(0, 600), 120000);
        u.set(2, 1, 0);
        due(u.mean(0, 600), 288000);
        of(20, "another GOAL: another MEAN");
        z.aim(0, 1);
        due(z.mean(0, 600), 61000);
        due(z.mean(1, 600), 60000);
        due(z.mean(2, 600), 288000);
    }

    private static CreweChange twoThatAreCut() {
        CreweChange x = threeStops();
        x.chances(0, 33, 0, 0);
        x.chances(3, 1, 0, 0);
        x.turns(2, 3);
        x.hangs(2, 0);
        x.set(2, 2, 61);
        x.chances(2, 8, 0, 0);
        return x;
    }

    private static void meanIsCut() {
        of(20, "together by 100 (cut), at each STOP anew");
        CreweChange x = twoThatAreCut();
        due(x.mean(1, 700), 72005);
        // 67 times 63300 and 33 times 72005 is 6617265
        due(x.mean(0, 600), 66172);
        of(21, "what is cut is compared: of several the least");
        due(x.taken(0, 600), 0);
        x.chances(0, 34, 0, 0);
        due(x.taken(0, 600), 2);
        due(x.mean(0, 600), 66172);
        of(20, "cut by 99 hundredths");
        CreweChange y = threeStops();
        y.turns(3, 1);
        y.chances(3, 57, 0, 0);
        y.chances(0, 1, 0, 0);
        due(y.mean(1, 700), 72399);
        due(y.mean(0, 600), 63390);
    }

    private static void mayTake() {
        of(20, "GOES and WAITS is t or more: the last minute, and the one behind it");
        int[] waits = {0, 0, 5, 0, 10, 10};
        for (int kind = 0; kind < 6; kind++) {
            CreweChange x = oneTrain(kind, 600, 10);
            due(x.mean(1, 600), 61000);
            due(x.mean(1, 600 + waits[kind]), 100 * (610 + waits[kind]));
            due(x.mean(1, 601 + waits[kind]), 288000);
            due(x.taken(1, 600 + waits[kind]), 0);
            due(x.taken(1, 601 + waits[kind]), NONE);
        }
        of(20, "GOES, not LEAVE; WAITS as held");
        CreweChange x = oneTrain(4, 1439, 600);
        text(x, "tide 999");
        text(x, "waits 999");
        due(x.mean(1, 1439), 100 * (1559 + 600));
        due(x.mean(1, 1559), 100 * (1559 + 600));
        due(x.mean(1, 1589), 100 * (1589 + 600));
        due(x.mean(1, 1590), 288000);
        of(20, "it is never missed then, however late: DELAY does not let one take it later");
        CreweChange y = oneTrain(0, 600, 10);
        y.chances(0, 0, 0, 100);
        due(y.mean(1, 600), 62500);
        due(y.mean(1, 601), 288000);
        of(20, "a TRAIN from another STOP may not be taken");
        CreweChange z = threeStops();
        due(z.mean(1, 0), 63300);
        due(z.taken(1, 0), 1);
        of(20, "LEAVE 0 at minute 0");
        CreweChange u = oneTrain(0, 0, 1);
        due(u.mean(1, 0), 100);
        due(u.mean(1, 1), 288000);
    }

    private static void leavesWithOne() {
        of(20, "at LATER by its STEP, or at t, if that is more");
        CreweChange x = oneTrain(0, 600, 10);
        text(x, "waits 30");
        x.chances(0, 0, 100, 0);
        int[][] there = {{0, 620}, {600, 620}, {609, 620}, {610, 620}, {611, 621}, {630, 640}};
        for (int[] t : there) due(x.mean(1, t[0]), 100 * t[1]);
        due(x.mean(1, 631), 288000);
        of(20, "by each STEP by itself");
        x.chances(0, 25, 25, 25);
        due(x.mean(1, 600), 25 * (610 + 615 + 620 + 625));
        due(x.mean(1, 607), 25 * (617 + 617 + 620 + 625));
        due(x.mean(1, 615), 62500);
        due(x.mean(1, 616), 62600);
    }

    private static void walksOn() {
        of(20, "and WALK of that STOP more: in time, and a minute too late");
        CreweChange x = threeStops();
        due(x.mean(0, 600), 63300);
        x.set(1, 1, 612);
        due(x.mean(0, 600), 69000);
        x.set(2, 1, 0);
        due(x.mean(0, 600), 72000);
        of(20, "as walk gives it");
        text(x, "walk 2");
        due(x.mean(0, 600), 63200);
        text(x, "walk 999");
        due(x.mean(0, 600), 288000);
        x.set(3, 1, 709);
        due(x.mean(0, 600), 72900);
        x.set(3, 1, 708);
        due(x.mean(0, 600), 288000);
        of(20, "if that is not THE GOAL: no WALK there");
        CreweChange y = withStops(99, 99);
        y.train(0, 10, 600, 10);
        due(y.mean(1, 600), 61000);
        due(y.sure(1, 600), 10000);
        y.aim(1, 610);
        due(y.sure(1, 600), 10000);
        of(20, "no WALK where one is at first");
        due(y.mean(1, 600), 61000);
    }

    /** Twelve trains, each of which waits 30 minutes, none while another one does: as many minutes as can count. */
    private static void everyMinute() {
        CreweChange x = withStops(0, 0);
        for (int i = 0; i < 12; i++) x.train(0, 10, 100 * i, 1 + i);
        text(x, "waits 30");
        for (int i = 0; i < 12; i++) {
            of(20, "each minute at which one of twelve waits");
            for (int wait = 0; wait <= 30; wait++) due(x.mean(1, 100 * i + wait), 100 * (100 * i + wait + 1 + i));
            due(x.mean(1, 100 * i + 31), i == 11 ? 288000 : 100 * (100 * i + 102 + i));
            of(21, "the last minute of each of twelve, and the next");
            due(x.taken(1, 100 * i + 30), i);
            due(x.taken(1, 100 * i + 31), i == 11 ? NONE : i + 1);
        }
    }

    private static void taken() {
        of(21, "NONE at THE GOAL, though a TRAIN could be taken");
        CreweChange x = withStops(0, 0);
        x.train(0, 1, 100, 1);
        x.train(0, 10, 100, 1);
        due(x.taken(0, 100), NONE);
        due(x.taken(1, 100), 1);
        x.aim(0, 1);
        due(x.taken(0, 100), 0);
        due(x.taken(1, 100), NONE);
        of(21, "NONE: one may take none");
        due(x.taken(0, 101), NONE);
        due(withStops(0, 0).taken(1, 0), NONE);
        of(21, "of several the least number");
        CreweChange y = withStops(0, 0);
        for (int i = 0; i < 12; i++) y.train(0, 10, 100, 50);
        due(y.taken(1, 100), 0);
        y.set(11, 2, 49);
        due(y.taken(1, 100), 11);
        y.set(10, 2, 49);
        due(y.taken(1, 100), 10);
        y.set(0, 1, 0);
        y.set(10, 1, 0);
        y.set(11, 1, 0);
        due(y.taken(1, 100), 1);
        of(21, "one that leads nowhere is taken where it is the least");
        CreweChange z = withStops(0, 0, 0);
        z.train(0, 12, 100, 1);
        z.train(0, 12, 100, 1);
        due(z.taken(1, 100), 0);
        z.train(0, 10, 100, 600);
        due(z.taken(1, 100), 2);
    }

    private static void sure() {
        of(22, "at THE GOAL 10000, if the minute is NOON or less, else 0");
        CreweChange x = withStops(0, 0);
        int[] noons = {0, 1, 720, 2878, 2879};
        for (int noon : noons) {
            x.aim(1, noon);
            due(x.sure(0, noon), 10000);
            if (noon > 0) due(x.sure(0, noon - 1), 10000);
            if (noon < 2879) due(x.sure(0, noon + 1), 0);
        }
        x.aim(1, 2999);
        due(x.sure(0, 2879), 10000);
        of(22, "without one: 0");
        due(x.sure(1, 0), 0);
        of(22, "there at NOON, and a minute behind it");
        CreweChange y = oneTrain(0, 600, 120);
        due(y.sure(1, 600), 10000);
        y.aim(1, 719);
        due(y.sure(1, 600), 0);
        y.chances(0, 30, 20, 10);
        int[][] sure = {{719, 0}, {720, 4000}, {724, 4000}, {725, 7000}, {730, 9000}, {734, 9000}, {735, 10000}};
        for (int[] s : sure) {
            y.aim(1, s[0]);
            due(y.sure(1, 600), s[1]);
        }
        of(22, "a hundredth");
        y.chances(0, 99, 0, 0);
        y.aim(1, 720);
        due(y.sure(1, 600), 100);
        of(22, "GOES and WAITS is t or more");
        due(y.sure(1, 601), 0);
        y.turns(0, 2);
        y.aim(1, 725);
        due(y.sure(1, 605), 10000);
        due(y.sure(1, 606), 0);
        y.aim(1, 724);
        due(y.sure(1, 605), 0);
        due(y.sure(1, 604), 10000);
    }

    private static void sureByParts() {
        of(22, "together by 100 (cut)");
        CreweChange x = withStops(0, 0, 0, 0);
        x.train(0, 1, 100, 10);
        x.train(0, 12, 110, 10);
        x.train(0, 23, 120, 10);
        for (int i = 0; i < 3; i++) x.chances(i, 33, 0, 0);
        x.aim(0, 3);
        x.aim(1, 130);
        due(x.sure(2, 120), 6700);
        due(x.sure(1, 110), 4489);
        // 67 times 4489 is 300763
        due(x.sure(0, 100), 3007);
        for (int i = 0; i < 3; i++) x.chances(i, 99, 0, 0);
        due(x.sure(2, 120), 100);
        due(x.sure(1, 110), 1);
        due(x.sure(0, 100), 0);
        of(22, "the greatest of several");
        CreweChange y = threeStops();
        y.aim(1, 650);
        y.chances(0, 30, 0, 0);
        due(y.sure(0, 600), 7000);
        y.aim(1, 689);
        due(y.sure(0, 600), 7000);
        y.aim(1, 690);
        due(y.sure(0, 600), 10000);
        due(y.sure(0, 601), 0);
        of(22, "surest is not soonest in the mean");
        due(y.taken(0, 600), 0);
        of(22, "WALK more, if that is not THE GOAL");
        y.aim(1, 633);
        due(y.sure(0, 600), 7000);
        y.aim(1, 632);
        due(y.sure(0, 600), 0);
        y.aim(1, 633);
        text(y, "walk 4");
        due(y.sure(0, 600), 0);
    }

    private static void cheap() {
        of(23, "at THE GOAL 0, if the minute is NOON or less, else it can't be");
        CreweChange x = withStops(0, 0);
        due(x.cheap(0, 720), 0);
        due(x.cheap(0, 721), NONE);
        x.aim(1, 0);
        due(x.cheap(0, 0), 0);
        due(x.cheap(0, 1), NONE);
        x.aim(1, 2999);
        due(x.cheap(0, 2879), 0);
        of(23, "without one that may be taken it can't be");
        due(x.cheap(1, 0), NONE);
        of(23, "FARE by KINDS, of the least and the greatest PRICE");
        int[][] fares = {{0, 999}, {0, 499}, {10, 1009}, {0, 499}, {20, 2018}, {0, 999}};
        for (int kind = 0; kind < 6; kind++) {
            CreweChange y = oneTrain(kind, 600, 10);
            due(y.cheap(1, 600), fares[kind][0]);
            y.set(0, 0, 999);
            due(y.cheap(1, 600), fares[kind][1]);
            y.aim(1, 610);
            due(y.cheap(1, 600), fares[kind][1]);
            y.aim(1, 609);
            due(y.cheap(1, 600), NONE);
        }
        of(23, "GOES and WAITS is t or more");
        CreweChange z = oneTrain(5, 600, 10);
        due(z.cheap(1, 610), 0);
        due(z.cheap(1, 611), NONE);
    }

    private static void cheapByParts() {
        of(23, "it can't be, if one of the STEPS can't of which CHANCES are not 0");
        CreweChange x = oneTrain(0, 600, 10);
        x.set(0, 0, 7);
        x.aim(1, 624);
        due(x.cheap(1, 600), 7);
        x.chances(0, 0, 0, 1);
        due(x.cheap(1, 600), NONE);
        x.aim(1, 625);
        due(x.cheap(1, 600), 7);
        x.chances(0, 50, 50, 0);
        x.aim(1, 620);
        due(x.cheap(1, 600), 7);
        x.aim(1, 619);
        due(x.cheap(1, 600), NONE);
        of(23, "STEP 0, too, if its CHANCES are 0, does not count");
        CreweChange y = threeStops();
        y.set(0, 0, 1);
        y.set(1, 0, 500);
        y.set(3, 0, 20);
        y.set(2, 0, 999);
        due(y.cheap(0, 600), 21);
        y.aim(1, 719);
        due(y.cheap(0, 600), 501);
        y.chances(0, 100, 0, 0);
        due(y.cheap(0, 600), 1009);
        y.aim(1, 720);
        due(y.cheap(0, 600), 21);
        of(23, "the greatest CHEAP behind it by STEPS");
        CreweChange z = threeStops();
        z.set(2, 0, 999);
        z.set(1, 0, 3);
        z.set(3, 0, 40);
        z.chances(0, 1, 0, 0);
        due(z.cheap(0, 600), 40);
        z.set(1, 0, 60);
        z.set(3, 0, 5);
        due(z.cheap(0, 600), 5);
        of(23, "the least of several");
        z.set(0, 0, 200);
        z.set(2, 0, 194);
        due(z.cheap(0, 600), 204);
        z.set(2, 0, 196);
        due(z.cheap(0, 600), 205);
        of(23, "0 is cheap, not NONE");
        z.set(0, 0, 0);
        z.set(3, 0, 0);
        due(z.cheap(0, 600), 0);
        of(23, "many fares together");
        CreweChange u = withStops(0, 0, 0, 0, 0, 0);
        int[] ends = {1, 12, 23, 34, 45};
        for (int i = 0; i < 5; i++) {
            u.train(4, ends[i], 100 * i, 1);
            u.set(i, 0, 999);
        }
        u.aim(0, 5);
        due(u.cheap(0, 0), 5 * 2018);
    }

    private static void latest() {
        of(24, "q 0 .. 10000");
        CreweChange x = oneTrain(0, 600, 10);
        due(x.latest(1, 0), 1469);
        due(x.latest(1, 10000), 600);
        refused(Edge::crewe, BAD, y -> y.latest(0, -1), y -> y.latest(0, 10001), y -> y.latest(0, LEAST), y -> y.latest(0, MOST));
        of(24, "a STOP that there is");
        refused(Edge::crewe, BAD, y -> y.latest(-1, 0), y -> y.latest(3, 0), y -> y.latest(LEAST, 0), y -> y.latest(MOST, 0));
        due(new CreweChange().latest(0, 0), BAD);
        of(24, "NONE: at no minute");
        due(withStops(0, 0).latest(1, 1), NONE);
        x.aim(1, 609);
        due(x.latest(1, 1), NONE);
        due(x.latest(1, 0), 1469);
        of(24, "SURE is q or more: the last q that it is, the first that it is not");
        x.chances(0, 70, 0, 0);
        x.aim(1, 610);
        due(x.latest(1, 3000), 600);
        due(x.latest(1, 3001), NONE);
        x.aim(1, 615);
        due(x.latest(1, 3001), 600);
    }

    private static void latestByParts() {
        of(24, "minutes 0 .. 1469");
        CreweChange x = oneTrain(0, 0, 1);
        due(x.latest(1, 10000), 0);
        due(x.latest(1, 1), 0);
        x.set(0, 1, 1439);
        x.aim(1, 2999);
        due(x.latest(1, 10000), 1439);
        text(x, "waits 29");
        due(x.latest(1, 10000), 1468);
        text(x, "waits 30");
        due(x.latest(1, 10000), 1469);
        of(24, "one that may be taken later still: 1469");
        text(x, "tide 120");
        x.turns(0, 4);
        due(x.sure(1, 1589), 10000);
        due(x.latest(1, 10000), 1469);
        of(24, "from THE GOAL: NOON, or 1469");
        int[][] noons = {{0, 0}, {1, 1}, {1468, 1468}, {1469, 1469}, {1470, 1469}, {2999, 1469}};
        for (int[] noon : noons) {
            x.aim(1, noon[0]);
            due(x.latest(0, 10000), noon[1]);
            due(x.latest(0, 1), noon[1]);
            due(x.latest(0, 0), 1469);
        }
        of(24, "the greatest of the minutes, while it waits");
        CreweChange y = threeStops();
        due(y.latest(0, 10000), 605);
        y.aim(1, 692);
        due(y.latest(0, 10000), 602);
        y.aim(1, 689);
        due(y.latest(0, 10000), 600);
        y.aim(1, 632);
        due(y.latest(0, 1), NONE);
    }
}
