/** The edges of promises 12 to 18, each sentence by itself. */
public final class EdgesChangesPlansTest extends Edge {
    public static void main(String[] args) {
        makes();
        makesByParts();
        never();
        neverMany();
        mends();
        mendsParts();
        add();
        clear();
        judge();
        plan();
        planParts();
        end(12, 18);
    }

    /** 0 is at stop 1 at 610 and 4 minutes later at the other train; 1 leaves from there, 2 does not. */
    private static CreweChange change() {
        CreweChange x = withStops(9, 4, 50);
        x.train(0, 1, 600, 10);
        x.train(0, 12, 614, 20);
        x.train(0, 20, 900, 20);
        return x;
    }

    /** One hundredth of each leads to the change, if any does. */
    private static CreweChange hardlyMade() {
        CreweChange x = change();
        x.chances(0, 99, 0, 0);
        x.chances(1, 1, 0, 0);
        return x;
    }

    private static CreweChange sixPlanned() {
        CreweChange x = withStops(0, 0);
        x.train(0, 1, 600, 1);
        x.train(0, 10, 700, 1);
        for (int i = 0; i < 6; i++) x.add(i % 2);
        return x;
    }

    private static void makes() {
        of(12, "BAD: a train that there is not");
        refused(Edge::crewe, BAD, y -> y.makes(-1, 0), y -> y.makes(0, -1), y -> y.makes(4, 0), y -> y.makes(0, 4), y -> y.makes(LEAST, MOST), y -> y.makes(4, 4), y -> y.makes(-1, -1));
        due(new CreweChange().makes(0, 0), BAD);
        due(new CreweChange().makes(0, 1), BAD);
        of(12, "BAD: one and the same, though it is not from where it goes to");
        refused(Edge::crewe, BAD, y -> y.makes(0, 0), y -> y.makes(3, 3));
        of(12, "NO: b is not from where a goes to");
        refused(Edge::crewe, NO, y -> y.makes(1, 0), y -> y.makes(0, 3), y -> y.makes(1, 2));
        of(12, "the last TRAINS that there are");
        CreweChange z = withStops(0, 0);
        for (int i = 0; i < 12; i++) z.train(0, i % 2 == 0 ? 1 : 10, 100 + i, 1);
        due(z.makes(10, 11), 10000);
        due(z.makes(11, 10), 0);
        due(z.makes(11, 12), BAD);
        due(z.makes(12, 11), BAD);
    }

    private static void makesByParts() {
        of(12, "not above: made at the very minute, not a minute below it");
        CreweChange x = change();
        due(x.makes(0, 1), 10000);
        x.set(1, 1, 613);
        due(x.makes(0, 1), 0);
        x.set(1, 1, 1439);
        due(x.makes(0, 1), 10000);
        x.set(1, 1, 0);
        due(x.makes(0, 1), 0);
        of(12, "WAITS: a minute that it waits is a minute that it may be later");
        x.turns(1, 2);
        x.set(1, 1, 609);
        due(x.makes(0, 1), 10000);
        x.set(1, 1, 608);
        due(x.makes(0, 1), 0);
        x.turns(1, 5);
        x.set(1, 1, 604);
        due(x.makes(0, 1), 10000);
        x.set(1, 1, 603);
        due(x.makes(0, 1), 0);
        text(x, "waits 99");
        x.set(1, 1, 584);
        due(x.makes(0, 1), 10000);
        x.set(1, 1, 583);
        due(x.makes(0, 1), 0);
        of(12, "WAITS of a does not count");
        text(x, "waits (n=0)*30");
        x.set(1, 1, 614);
        due(x.makes(0, 1), 10000);
        of(12, "WALK there: of the STOP to which a goes, as walk gives it");
        text(x, "walk s*99+3");
        x.set(1, 1, 709);
        due(x.makes(0, 1), 10000);
        x.set(1, 1, 708);
        due(x.makes(0, 1), 0);
        of(12, "WALK at THE GOAL, too");
        CreweChange g = change();
        g.aim(0, 1);
        due(g.makes(0, 1), 10000);
        g.set(1, 1, 613);
        due(g.makes(0, 1), 0);
        of(12, "CHANCES of s times CHANCES of r, together: 1 of 10000, and all");
        CreweChange y = hardlyMade();
        int[][] made = {{608, 0}, {609, 1}, {613, 1}, {614, 199}, {618, 199}, {619, 10000}};
        for (int[] m : made) {
            y.set(1, 1, m[0]);
            due(y.makes(0, 1), m[1]);
        }
        of(12, "a STEP of which CHANCES are 0 adds nothing");
        y.chances(0, 0, 0, 100);
        y.chances(1, 0, 0, 0);
        y.set(1, 1, 628);
        due(y.makes(0, 1), 0);
        y.set(1, 1, 629);
        due(y.makes(0, 1), 10000);
        of(12, "GOES of a TIDE, DELAY of a HANGS count");
        CreweChange t = change();
        t.turns(1, 4);
        t.set(1, 1, 0);
        text(t, "tide 120");
        // 120 and the 10 minutes that it waits, against 10 and 4 after a has left
        t.set(0, 1, 116);
        due(t.makes(0, 1), 10000);
        t.set(0, 1, 117);
        due(t.makes(0, 1), 0);
        CreweChange h = withStops(0, 4, 0);
        h.train(1, 2, 5, 5);
        h.train(3, 1, 600, 10);
        h.train(0, 12, 645, 10);
        h.chances(1, 0, 0, 100);
        h.hangs(1, 0);
        due(h.makes(1, 2), 10000);
        h.set(2, 1, 644);
        due(h.makes(1, 2), 0);
        h.hangs(1, NONE);
        due(h.makes(1, 2), 10000);
    }

    private static void never() {
        of(13, "what 0, 1");
        refused(Edge::crewe, BAD, y -> y.never(-1), y -> y.never(2), y -> y.never(LEAST), y -> y.never(MOST));
        due(new CreweChange().never(2), BAD);
        of(13, "none: 0, NONE");
        CreweChange x = new CreweChange();
        due(x.never(0), 0);
        due(x.never(1), NONE);
        x.stop(0);
        x.stop(0);
        x.train(0, 1, 5, 5);
        due(x.never(0), 0);
        due(x.never(1), NONE);
        of(13, "a change that MAKES 1 is made");
        CreweChange y = hardlyMade();
        y.set(1, 1, 609);
        due(y.never(0), 1);
        due(y.never(1), 200);
        y.set(1, 1, 608);
        due(y.never(0), 2);
        due(y.never(1), 1);
        of(13, "b from where a goes to: others are no changes");
        CreweChange z = withStops(0, 0, 0);
        z.train(0, 1, 900, 1);
        z.train(0, 1, 5, 1);
        z.train(0, 2, 5, 1);
        due(z.never(0), 0);
        due(z.never(1), NONE);
    }

    private static void neverMany() {
        of(13, "by a, then b: 100 times a, and b");
        CreweChange x = withStops(0, 0, 0, 0);
        for (int i = 0; i < 10; i++) x.train(0, 1, 5, 1);
        x.train(0, 23, 5, 1);
        x.train(0, 32, 1000, 1);
        due(x.never(0), 1);
        due(x.never(1), 1110);
        of(13, "0 and its own first b");
        CreweChange y = withStops(0, 0);
        for (int i = 0; i < 12; i++) y.train(0, i < 6 ? 1 : 10, 600, 1);
        due(y.never(0), 72);
        due(y.never(1), 6);
        y.set(6, 1, 601);
        due(y.never(0), 66);
        due(y.never(1), 7);
        of(13, "a = 0, b = 1 is 1, not NONE");
        CreweChange z = withStops(0, 0);
        z.train(0, 1, 600, 1);
        z.train(0, 10, 600, 1);
        due(z.never(0), 2);
        due(z.never(1), 1);
        z.set(1, 1, 601);
        due(z.never(0), 1);
        due(z.never(1), 100);
    }

    private static void mends() {
        of(14, "v 1 .. 10000");
        CreweChange x = hardlyMade();
        x.set(1, 1, 608);
        due(x.mends(0, 1, 1), 1);
        due(x.mends(0, 1, 10000), 11);
        refused(Edge::crewe, BAD, y -> y.mends(0, 1, 0), y -> y.mends(0, 1, -1), y -> y.mends(0, 1, 10001), y -> y.mends(0, 1, LEAST), y -> y.mends(0, 1, MOST));
        of(14, "BAD: a train, one and the same");
        refused(Edge::crewe, BAD, y -> y.mends(-1, 0, 1), y -> y.mends(0, -1, 1), y -> y.mends(4, 0, 1), y -> y.mends(0, 4, 1), y -> y.mends(0, 0, 1));
        of(14, "NO as of makes()");
        refused(Edge::crewe, NO, y -> y.mends(1, 0, 1), y -> y.mends(0, 3, 10000));
        of(14, "BAD ahead of NO");
        refused(Edge::crewe, BAD, y -> y.mends(1, 0, 0), y -> y.mends(1, 0, 10001));
        of(14, "the last TRAINS that there are");
        CreweChange last = withStops(0, 0);
        for (int i = 0; i < 12; i++) last.train(0, i % 2 == 0 ? 1 : 10, 100 + i, 1);
        due(last.mends(10, 11, 10000), 0);
        due(last.mends(11, 10, 10000), 2);
        due(last.mends(11, 12, 1), BAD);
        due(last.mends(12, 11, 1), BAD);
        of(14, "the call changes nothing");
        CreweChange z = crewe();
        z.mends(0, 1, 10000);
        same(z, crewe());
    }

    private static void mendsParts() {
        of(14, "at least: each v from the last that so many minutes give to the first that needs more");
        CreweChange x = hardlyMade();
        x.set(1, 1, 608);
        int[][] mended = {{1, 1}, {2, 6}, {199, 6}, {200, 11}, {10000, 11}};
        for (int[] m : mended) due(x.mends(0, 1, m[0]), m[1]);
        of(14, "by the first pair of STEPS alone, and by the last");
        CreweChange late = change();
        late.turns(0, 1);
        late.set(1, 1, 600);
        due(late.mends(0, 1, 10000), 14);
        late.chances(0, 0, 0, 100);
        late.chances(1, 0, 0, 100);
        due(late.mends(0, 1, 10000), 14 + 21 - 15);
        of(14, "0, if it MAKES v already");
        x.set(1, 1, 609);
        due(x.mends(0, 1, 1), 0);
        due(x.mends(0, 1, 2), 5);
        x.set(1, 1, 619);
        due(x.mends(0, 1, 10000), 0);
        x.set(1, 1, 1439);
        due(x.mends(0, 1, 10000), 0);
        of(14, "0 .. 999; NONE: by none");
        CreweChange y = change();
        y.set(0, 1, 1399);
        y.set(1, 1, 415);
        due(y.mends(0, 1, 1), 998);
        y.set(1, 1, 414);
        due(y.mends(0, 1, 1), 999);
        y.set(1, 1, 413);
        due(y.mends(0, 1, 1), NONE);
        y.set(1, 1, 0);
        due(y.mends(0, 1, 1), NONE);
        of(14, "v for which all STEPS must be in time, some by 999, some not");
        y.set(1, 1, 414);
        y.chances(0, 1, 0, 0);
        due(y.mends(0, 1, 9900), 999);
        due(y.mends(0, 1, 9901), NONE);
        of(14, "WAITS shorten it");
        y.set(1, 1, 409);
        due(y.mends(0, 1, 9900), NONE);
        y.turns(1, 2);
        due(y.mends(0, 1, 9900), 999);
        due(y.mends(0, 1, 9901), NONE);
        y.set(1, 1, 414);
        due(y.mends(0, 1, 10000), 999);
        of(14, "LEAVE of b more than 1439 would do, too");
        CreweChange z = change();
        z.set(0, 1, 1439);
        z.set(0, 2, 600);
        z.set(1, 1, 1439);
        due(z.mends(0, 1, 10000), 604);
    }

    private static void add() {
        of(15, "a TRAIN that there is");
        CreweChange x = withStops(0, 0);
        due(x.add(0), BAD);
        for (int i = 0; i < 12; i++) x.train(0, 1, 5, 5);
        due(x.add(11), 1);
        due(x.add(0), 2);
        due(x.add(12), BAD);
        refused(Edge::crewe, BAD, y -> y.add(-1), y -> y.add(4), y -> y.add(LEAST), y -> y.add(MOST), y -> y.add(NONE));
        of(15, "up to 6 TRAINS: how many");
        for (int i = 3; i <= 6; i++) due(x.add(0), i);
        due(x.add(0), FULL);
        due(x.count(3), 6);
        refused(EdgesChangesPlansTest::sixPlanned, FULL, y -> y.add(0), y -> y.add(1));
        of(15, "BAD ahead of FULL");
        refused(EdgesChangesPlansTest::sixPlanned, BAD, y -> y.add(2), y -> y.add(-1));
        of(15, "one that does not hold comes, too; the same TRAIN again");
        CreweChange z = sixPlanned();
        z.clear();
        due(z.add(0), 1);
        due(z.add(0), 2);
        due(z.judge(), 1);
    }

    private static void clear() {
        of(16, "how many it had: none, six");
        CreweChange x = sixPlanned();
        due(x.clear(), 6);
        due(x.clear(), 0);
        due(x.count(3), 0);
        due(x.judge(), NONE);
        due(x.plan(0), 1);
        due(x.plan(1), 0);
        of(16, "there is room again");
        for (int i = 1; i <= 6; i++) due(x.add(i % 2), i);
        due(x.add(0), FULL);
        of(16, "nothing else is cleared");
        CreweChange y = crewe();
        due(y.clear(), 2);
        due(y.add(0), 1);
        due(y.add(1), 2);
        same(y, crewe());
    }

    private static void judge() {
        of(17, "NONE: it holds, without TRAINS, with one, with six");
        CreweChange x = sixPlanned();
        due(x.judge(), NONE);
        x.clear();
        due(x.judge(), NONE);
        x.add(0);
        due(x.judge(), NONE);
        of(17, "the first place from 1 on, up to the last, 5");
        for (int broken = 1; broken < 6; broken++) {
            x.clear();
            for (int i = 0; i < 6; i++) x.add(i < broken ? i % 2 : (i + 1) % 2);
            due(x.judge(), broken);
        }
        of(17, "of several the first");
        x.clear();
        for (int i = 0; i < 6; i++) x.add(0);
        due(x.judge(), 1);
        x.clear();
        x.add(0);
        x.add(1);
        x.add(1);
        x.add(1);
        due(x.judge(), 2);
        of(17, "it holds by STOPS alone, though no change is made");
        CreweChange z = withStops(0, 0);
        z.train(0, 1, 600, 1);
        z.train(0, 10, 5, 1);
        z.add(0);
        z.add(1);
        due(z.judge(), NONE);
        due(z.plan(0), 0);
        due(z.plan(1), 0);
    }

    private static CreweChange brokenPlan() {
        CreweChange x = crewe();
        x.add(0);
        return x;
    }

    private static void plan() {
        of(18, "what 0, 1");
        refused(Edge::crewe, BAD, y -> y.plan(-1), y -> y.plan(2), y -> y.plan(LEAST), y -> y.plan(MOST));
        due(new CreweChange().plan(2), BAD);
        of(18, "NO: it does not hold");
        refused(EdgesChangesPlansTest::brokenPlan, NO, y -> y.plan(0), y -> y.plan(1));
        of(18, "BAD ahead of NO");
        refused(EdgesChangesPlansTest::brokenPlan, BAD, y -> y.plan(-1), y -> y.plan(2));
        of(18, "without TRAINS: 1, 0");
        CreweChange x = sixPlanned();
        x.clear();
        due(x.plan(0), 1);
        due(x.plan(1), 0);
        of(18, "one TRAIN: its CHANCES together, 100");
        x.chances(0, 20, 30, 40);
        x.add(0);
        due(x.plan(0), 100);
        due(x.plan(1), 10 * 601 + 20 * 606 + 30 * 611 + 40 * 616);
    }

    private static void planParts() {
        of(18, "one TRAIN, the last there is, by its own CHANCES");
        CreweChange last = crewe();
        last.clear();
        last.chances(3, 0, 0, 60);
        last.chances(2, 0, 0, 0);
        last.add(3);
        due(last.plan(0), 100);
        // tide gives 3 times 9 and the day, 7
        due(last.plan(1), 100 * (700 + 34 + 5));
        last.turns(3, 0);
        due(last.plan(1), 40 * 705 + 60 * 720);
        of(18, "six TRAINS: a long, far above an int");
        CreweChange x = withStops(0, 0, 0, 0, 0, 0);
        int[] ends = {1, 12, 23, 34, 45, 50};
        for (int i = 0; i < 6; i++) x.train(0, ends[i], i < 5 ? 100 * i : 1439, i < 5 ? 1 : 600);
        for (int i = 0; i < 6; i++) x.add(i);
        due(x.plan(0), 1000000000000L);
        due(x.plan(1), 2039000000000000L);
        for (int i = 0; i < 6; i++) x.chances(i, 25, 25, 25);
        due(x.plan(0), 1000000000000L);
        due(x.plan(1), 10000000000L * 25 * (2039 + 2044 + 2049 + 2054));
        of(18, "all changes must be made: one that is not is 0");
        x.set(2, 1, 0);
        due(x.plan(0), 0);
        due(x.plan(1), 0);
        of(18, "1 of 10000 by one change, times what the others have");
        CreweChange y = hardlyMade();
        y.set(1, 1, 609);
        y.add(0);
        y.add(1);
        due(y.plan(0), 1);
        due(y.plan(1), 609 + 5 + 20);
        y.add(2);
        due(y.plan(0), 100);
        due(y.plan(1), 100 * 920);
        y.set(1, 1, 608);
        due(y.plan(0), 0);
        of(18, "changes hang on the same STEP of the TRAIN between them");
        // 1 must be late for 0, and must not be late for 2: by one step of it both can't be
        CreweChange z = withStops(0, 0, 0, 0);
        z.train(0, 1, 600, 5);
        z.train(0, 12, 600, 5);
        z.train(0, 23, 605, 5);
        z.chances(1, 50, 0, 0);
        due(z.makes(0, 1), 5000);
        due(z.makes(1, 2), 5000);
        z.add(0);
        z.add(1);
        z.add(2);
        due(z.plan(0), 0);
        z.set(2, 1, 610);
        due(z.plan(0), 500000);
        due(z.plan(1), 500000L * 615);
        of(18, "a TRAIN that is there twice: a STEP for each place");
        // it is there at 601 or 606, and the other waits to 603; then that is back in time for both steps
        CreweChange u = withStops(0, 0);
        u.train(0, 1, 600, 1);
        u.train(0, 10, 600, 1);
        u.chances(0, 50, 0, 0);
        text(u, "waits 3");
        u.set(1, 1, 600);
        u.add(0);
        u.add(1);
        u.add(0);
        due(u.plan(0), 50 * 100 * 100);
        due(u.plan(1), 50 * 100 * (50 * 601 + 50 * 606));
    }
}
