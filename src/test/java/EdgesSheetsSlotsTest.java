/** The edges of promises 35 to 43, each sentence by itself. */
public final class EdgesSheetsSlotsTest extends Edge {
    public static void main(String[] args) {
        sheet();
        sheetMissing();
        mark();
        markShorts();
        markFloats();
        pour();
        pourChances();
        reads();
        readsPlaces();
        copy();
        copyPlaces();
        copyInOne();
        lay();
        layStays();
        ask();
        item();
        rest();
        end(35, 43);
    }

    /** What stands at a place of a sheet, by slot 0. */
    private static int at(CreweChange x, int sheet, int place) {
        x.lay(0, 2, sheet);
        return x.item(0, place);
    }

    /** Sheet 0: the numbers from 1 on as shorts; sheet 1: from 101 on as floats. */
    private static CreweChange twoSheets() {
        CreweChange x = withStops(0, 0);
        x.train(1, 1, 600, 10);
        x.sheet(0, 0, 5);
        x.sheet(1, 1, 5);
        for (int i = 0; i < 5; i++) {
            x.mark(0, i, i + 1);
            x.mark(1, i, i + 101);
        }
        return x;
    }

    private static void sheet() {
        of(35, "SHEETS 0 .. 3");
        CreweChange x = new CreweChange();
        due(x.sheet(0, 0, 3), 3);
        due(x.sheet(3, 0, 3), 3);
        refused(Edge::crewe, BAD, y -> y.sheet(-1, 0, 3), y -> y.sheet(4, 0, 3), y -> y.sheet(LEAST, 0, 3), y -> y.sheet(MOST, 0, 3), y -> y.sheet(4, -1, 0));
        of(35, "sort -1, 0, 1");
        due(x.sheet(0, 1, 3), 3);
        due(x.sheet(0, -1, 3), 0);
        refused(Edge::crewe, BAD, y -> y.sheet(0, -2, 3), y -> y.sheet(0, 2, 3), y -> y.sheet(0, LEAST, 3), y -> y.sheet(0, MOST, 3));
        of(35, "0 to 24 places");
        due(x.sheet(0, 0, 0), 0);
        due(x.mark(0, 0, 1), INDEX);
        due(x.sheet(0, 0, 24), 24);
        due(x.mark(0, 23, 1), 1);
        due(x.mark(0, 24, 1), INDEX);
        due(x.sheet(0, 1, 1), 1);
        due(x.mark(0, 0, 1), 1);
        due(x.mark(0, 1, 1), INDEX);
        of(35, "BAD: n above 24");
        refused(Edge::crewe, BAD, y -> y.sheet(0, 0, 25), y -> y.sheet(0, 1, 25), y -> y.sheet(3, 1, MOST));
        of(35, "SIZE: n below 0");
        refused(Edge::crewe, SIZE, y -> y.sheet(0, 0, -1), y -> y.sheet(0, 1, -1), y -> y.sheet(3, 1, LEAST));
        of(35, "BAD ahead of SIZE");
        refused(Edge::crewe, BAD, y -> y.sheet(4, 0, -1), y -> y.sheet(-1, 0, -1), y -> y.sheet(0, 2, -1), y -> y.sheet(0, -2, -1));
        of(35, "all 0, whatever stood there");
        CreweChange y = twoSheets();
        due(y.sheet(0, 0, 5), 5);
        for (int i = 0; i < 5; i++) due(at(y, 0, i), 0);
        y.mark(1, 2, NONE);
        due(y.sheet(1, 1, 24), 24);
        for (int i = 0; i < 24; i++) due(at(y, 1, i), 0);
        of(35, "the other SHEETS stay");
        CreweChange z = twoSheets();
        z.sheet(0, 1, 9);
        z.sheet(2, 0, 9);
        for (int i = 0; i < 5; i++) due(at(z, 1, i), i + 101);
        of(35, "a row that was long and is short, and long again");
        z.sheet(1, 1, 2);
        due(at(z, 1, 2), INDEX);
        z.sheet(1, 1, 5);
        for (int i = 0; i < 5; i++) due(at(z, 1, i), 0);
    }

    private static void sheetMissing() {
        of(35, "sort -1: MISSING, n any: 0");
        int[] any = {0, 1, 24, 25, -1, LEAST, MOST};
        for (int n : any) {
            CreweChange x = twoSheets();
            due(x.sheet(0, -1, n), 0);
            due(x.mark(0, 0, 1), NOTHING);
            due(x.lay(1, 2, 0), NOTHING);
            due(x.pour(0, 0), NOTHING);
            due(x.reads(0, 0), NOTHING);
            due(x.copy(0, 0, 1, 0, 0), NOTHING);
            due(x.copy(1, 0, 0, 0, 0), NOTHING);
            due(x.mark(1, 0, 1), 1);
        }
        of(35, "MISSING again, though it is");
        CreweChange x = new CreweChange();
        due(x.sheet(2, -1, 7), 0);
        due(x.sheet(2, -1, 7), 0);
        of(35, "a row again, of 0");
        CreweChange y = twoSheets();
        y.sheet(0, -1, 0);
        due(y.sheet(0, 0, 5), 5);
        for (int i = 0; i < 5; i++) due(at(y, 0, i), 0);
    }

    private static void mark() {
        of(36, "BAD: sheet, ahead of all else");
        refused(Edge::crewe, BAD, y -> y.mark(-1, 0, 1), y -> y.mark(4, 0, 1), y -> y.mark(LEAST, 0, 1), y -> y.mark(MOST, 99, NONE));
        of(36, "NOTHING: it is MISSING, ahead of INDEX");
        refused(Edge::crewe, NOTHING, y -> y.mark(3, 0, 1), y -> y.mark(3, -1, 1), y -> y.mark(3, 0, NONE), y -> y.mark(3, 0, 100000));
        of(36, "INDEX: there is no such place, ahead of KIND and of BAD");
        refused(Edge::crewe, INDEX, y -> y.mark(0, -1, 1), y -> y.mark(0, 3, 1), y -> y.mark(0, LEAST, 1), y -> y.mark(0, MOST, 1),
            y -> y.mark(1, 5, 1), y -> y.mark(2, 0, 1), y -> y.mark(0, 3, NONE), y -> y.mark(1, 5, 100000), y -> y.mark(1, -1, NONE));
        of(36, "KIND: NONE in a row of shorts");
        refused(Edge::crewe, KIND, y -> y.mark(0, 0, NONE), y -> y.mark(0, 2, NONE));
        of(36, "BAD: v of floats");
        refused(Edge::crewe, BAD, y -> y.mark(1, 0, 100000), y -> y.mark(1, 0, -100000), y -> y.mark(1, 0, LEAST), y -> y.mark(1, 0, MOST),
            y -> y.mark(1, 0, NONE - 1), y -> y.mark(1, 0, NONE + 1), y -> y.mark(1, 1, BAD));
        of(36, "the first place and the last, and no other");
        CreweChange x = twoSheets();
        due(x.mark(0, 0, 70), 1);
        due(x.mark(0, 4, 74), 1);
        due(x.mark(0, 5, 75), INDEX);
        int[] row = {70, 2, 3, 4, 74};
        for (int i = 0; i < 5; i++) due(at(x, 0, i), row[i]);
        for (int i = 0; i < 5; i++) due(at(x, 1, i), i + 101);
    }

    private static void markShorts() {
        of(36, "of shorts its lowest 16 bits");
        int[][] rows = {{32767, 32767}, {32768, -32768}, {65535, -1}, {65536, 0}, {65537, 1}, {-1, -1}, {-32768, -32768}, {-32769, 32767}, {-65536, 0}, {100000, -31072}, {LEAST, 0}, {MOST, -1},
            {BAD, (short) BAD}, {NONE - 1, (short) (NONE - 1)}, {NONE + 1, (short) (NONE + 1)}};
        CreweChange x = twoSheets();
        for (int[] row : rows) {
            due(x.mark(0, 1, row[0]), 1);
            due(at(x, 0, 1), row[1]);
        }
    }

    private static void markFloats() {
        of(36, "of floats v, -99999 .. 99999");
        CreweChange x = twoSheets();
        int[] taken = {99999, -99999, 99998, -99998, 0, 1, -1, 32768, 65536, -32769};
        for (int v : taken) {
            due(x.mark(1, 1, v), 1);
            due(at(x, 1, 1), v);
        }
        of(36, "NONE: NO NUMBER, and a number again");
        due(x.mark(1, 1, NONE), 1);
        due(at(x, 1, 1), KIND);
        due(x.mark(1, 1, 100000), BAD);
        due(at(x, 1, 1), KIND);
        due(x.mark(1, 1, 6), 1);
        due(at(x, 1, 1), 6);
    }

    private static void pour() {
        of(37, "BAD: sheet, train");
        refused(Edge::crewe, BAD, y -> y.pour(-1, 0), y -> y.pour(4, 0), y -> y.pour(LEAST, 0), y -> y.pour(MOST, 0), y -> y.pour(0, -1), y -> y.pour(0, 4), y -> y.pour(0, LEAST), y -> y.pour(0, MOST));
        of(37, "BAD: train, ahead of NOTHING and of INDEX");
        refused(Edge::crewe, BAD, y -> y.pour(3, 4), y -> y.pour(3, -1), y -> y.pour(2, 4));
        of(37, "NOTHING");
        refused(Edge::crewe, NOTHING, y -> y.pour(3, 0));
        of(37, "INDEX: it has fewer than 3 places");
        refused(Edge::crewe, INDEX, y -> y.pour(2, 0));
        CreweChange x = twoSheets();
        for (int n = 0; n < 3; n++) {
            x.sheet(0, 0, n);
            due(x.pour(0, 0), INDEX);
        }
        x.sheet(0, 0, 3);
        due(x.pour(0, 0), 100);
        of(37, "INDEX ahead of KIND: one of two places is NO NUMBER");
        x.sheet(1, 1, 2);
        x.mark(1, 0, NONE);
        due(x.pour(1, 0), INDEX);
        of(37, "KIND: one of these is NO NUMBER, each of them; ahead of BAD");
        refused(Edge::crewe, KIND, y -> y.pour(1, 0));
        for (int i = 0; i < 3; i++) {
            x.sheet(1, 1, 4);
            x.mark(1, i, NONE);
            due(x.pour(1, 0), KIND);
            x.mark(1, (i + 1) % 3, 101);
            due(x.pour(1, 0), KIND);
            x.mark(1, (i + 1) % 3, -1);
            due(x.pour(1, 0), KIND);
        }
        of(37, "places from 3 on do not count");
        x.sheet(1, 1, 4);
        x.mark(1, 3, NONE);
        due(x.pour(1, 0), 100);
        x.mark(1, 3, 99999);
        due(x.pour(1, 0), 100);
        x.mark(1, 3, -1);
        due(x.pour(1, 0), 100);
    }

    private static void pourChances() {
        of(37, "places 0, 1, 2 are of STEPS 1, 2, 3; what is of STEP 0 is told");
        int[][] taken = {{0, 0, 0}, {100, 0, 0}, {0, 100, 0}, {0, 0, 100}, {1, 2, 4}, {33, 33, 34}};
        for (int sort = 0; sort < 2; sort++) {
            CreweChange x = twoSheets();
            x.sheet(2, sort, 3);
            for (int[] c : taken) {
                for (int i = 0; i < 3; i++) x.mark(2, i, c[i]);
                int left = 100 - c[0] - c[1] - c[2];
                due(x.pour(2, 0), left);
                due(x.told(0, 10), left);
                for (int i = 0; i < 3; i++) due(x.told(0, 11 + i), c[i]);
            }
        }
        of(37, "BAD as of chances(): one below 0, all above 100; CHANCES stay");
        int[][] bad = {{-1, 0, 0}, {0, -1, 0}, {0, 0, -1}, {101, 0, 0}, {0, 101, 0}, {0, 0, 101}, {34, 33, 34}, {101, -1, 0}, {-1, 50, 51}, {32767, 32767, 2}, {-32768, 0, 0}};
        for (int sort = 0; sort < 2; sort++) {
            CreweChange x = twoSheets();
            x.chances(0, 10, 20, 30);
            x.sheet(2, sort, 3);
            for (int[] c : bad) {
                for (int i = 0; i < 3; i++) x.mark(2, i, c[i]);
                due(x.pour(2, 0), BAD);
                for (int i = 0; i < 4; i++) due(x.told(0, 10 + i), i == 0 ? 40 : 10 * i);
            }
        }
        of(37, "BAD: -7 of shorts, and nothing has changed");
        refused(Edge::crewe, BAD, y -> y.pour(0, 0), y -> y.pour(0, 3));
        of(37, "the SHEET stays, and goes its own way");
        CreweChange x = twoSheets();
        due(x.pour(0, 0), 94);
        for (int i = 0; i < 5; i++) due(at(x, 0, i), i + 1);
        x.mark(0, 0, 50);
        due(x.told(0, 11), 1);
    }

    private static void reads() {
        of(38, "BAD: sheet, train");
        refused(Edge::crewe, BAD, y -> y.reads(-1, 0), y -> y.reads(4, 0), y -> y.reads(LEAST, 0), y -> y.reads(0, -1), y -> y.reads(0, 4), y -> y.reads(0, MOST));
        of(38, "BAD ahead of NOTHING");
        refused(Edge::crewe, BAD, y -> y.reads(3, 4), y -> y.reads(3, -1));
        of(38, "NOTHING");
        refused(Edge::crewe, NOTHING, y -> y.reads(3, 0));
        of(38, "NONE: there is none, in a row without places");
        refused(Edge::crewe, NONE, y -> y.reads(2, 0));
    }

    private static void readsPlaces() {
        int[] there = {610, 617, 624, 631};
        of(38, "the first place at which it is not THERE by the STEP of that number");
        for (int sort = 0; sort < 2; sort++) {
            for (int n = 1; n <= 4; n++) {
                CreweChange x = twoSheets();
                x.sheet(2, sort, n);
                for (int i = 0; i < n; i++) x.mark(2, i, there[i]);
                due(x.reads(2, 0), NONE);
                for (int i = n - 1; i >= 0; i--) {
                    x.mark(2, i, there[i] + 1);
                    due(x.reads(2, 0), i);
                }
            }
        }
        of(38, "from place 4 on all that are numbers are not, 0 and THERE, too");
        CreweChange x = twoSheets();
        x.sheet(2, 0, 5);
        for (int i = 0; i < 4; i++) x.mark(2, i, there[i]);
        due(x.reads(2, 0), 4);
        x.mark(2, 4, 631);
        due(x.reads(2, 0), 4);
        x.mark(2, 4, 638);
        due(x.reads(2, 0), 4);
        of(38, "place 4 is no STEP, not even STEP 0 of the next TRAIN");
        x.train(1, 1, 700, 10);
        x.mark(2, 4, 710);
        due(x.reads(2, 0), 4);
        of(38, "of numbers alone: NO NUMBER is passed over, up to place 23");
        CreweChange y = twoSheets();
        y.sheet(2, 1, 24);
        for (int i = 0; i < 24; i++) y.mark(2, i, NONE);
        due(y.reads(2, 0), NONE);
        y.mark(2, 23, 610);
        due(y.reads(2, 0), 23);
        y.mark(2, 3, 631);
        due(y.reads(2, 0), 23);
        y.mark(2, 3, 630);
        due(y.reads(2, 0), 3);
        y.mark(2, 0, 610);
        due(y.reads(2, 0), 3);
        y.mark(2, 0, 0);
        due(y.reads(2, 0), 0);
        of(38, "THERE as it is now");
        CreweChange z = twoSheets();
        z.sheet(2, 0, 1);
        z.mark(2, 0, 610);
        due(z.reads(2, 0), NONE);
        z.set(0, 2, 11);
        due(z.reads(2, 0), 0);
        of(38, "shorts of more than 16 bits are read by what is left of them");
        z.mark(2, 0, 611 + 65536);
        due(z.reads(2, 0), NONE);
    }

    private static void copy() {
        of(39, "BAD: from, to, ahead of all else");
        refused(Edge::crewe, BAD, y -> y.copy(-1, 0, 0, 0, 1), y -> y.copy(4, 0, 0, 0, 1), y -> y.copy(0, 0, -1, 0, 1), y -> y.copy(0, 0, 4, 0, 1),
            y -> y.copy(3, 0, 4, 0, 1), y -> y.copy(4, 0, 3, 0, 1), y -> y.copy(LEAST, 0, MOST, 0, -1));
        of(39, "NOTHING: the one or the other is MISSING, ahead of KIND and INDEX");
        refused(Edge::crewe, NOTHING, y -> y.copy(3, 0, 0, 0, 1), y -> y.copy(0, 0, 3, 0, 1), y -> y.copy(3, 0, 3, 0, 0), y -> y.copy(1, 99, 3, 99, 99), y -> y.copy(3, 0, 1, 0, -1));
        of(39, "KIND: they are not of one sort, ahead of INDEX, even of no places");
        refused(Edge::crewe, KIND, y -> y.copy(0, 0, 1, 0, 1), y -> y.copy(1, 0, 0, 0, 1), y -> y.copy(0, 0, 1, 0, 0), y -> y.copy(0, 99, 1, 99, 99), y -> y.copy(1, 0, 2, 0, -1));
        of(39, "INDEX: places that there are not");
        refused(Edge::crewe, INDEX, y -> y.copy(0, -1, 0, 0, 1), y -> y.copy(0, 0, 0, -1, 1), y -> y.copy(0, 3, 0, 0, 1), y -> y.copy(0, 0, 0, 3, 1), y -> y.copy(0, 0, 0, 0, 4),
            y -> y.copy(0, 1, 0, 0, 3), y -> y.copy(0, 0, 0, 1, 3), y -> y.copy(0, 0, 2, 0, 1), y -> y.copy(2, 0, 0, 0, 1), y -> y.copy(1, 0, 1, 4, 2), y -> y.copy(1, 4, 1, 0, 2));
        of(39, "INDEX: so many below 0");
        refused(Edge::crewe, INDEX, y -> y.copy(0, 0, 0, 0, -1), y -> y.copy(0, 2, 0, 2, -2), y -> y.copy(0, 0, 0, 0, LEAST), y -> y.copy(2, 0, 2, 0, -1));
        of(39, "INDEX: where place and many together would wrap");
        refused(Edge::crewe, INDEX, y -> y.copy(0, MOST, 0, 0, 1), y -> y.copy(0, 0, 0, MOST, 1), y -> y.copy(0, 1, 0, 0, MOST), y -> y.copy(0, MOST, 0, MOST, MOST), y -> y.copy(0, LEAST, 0, 0, LEAST), y -> y.copy(0, 0, 0, 1, MOST));
        of(39, "none at all: from the end to the end, but not behind it");
        CreweChange x = crewe();
        due(x.copy(0, 3, 0, 3, 0), 0);
        due(x.copy(0, 0, 0, 0, 0), 0);
        due(x.copy(2, 0, 2, 0, 0), 0);
        due(x.copy(2, 0, 0, 3, 0), 0);
        due(x.copy(0, 4, 0, 0, 0), INDEX);
        due(x.copy(0, 0, 0, 4, 0), INDEX);
        due(x.copy(0, -1, 0, 0, 0), INDEX);
        due(x.copy(0, 0, 0, -1, 0), INDEX);
        due(x.copy(2, 1, 2, 0, 0), INDEX);
        same(x, crewe());
    }

    private static void copyPlaces() {
        of(39, "to another SHEET: the first places, the last, all");
        CreweChange x = twoSheets();
        x.sheet(2, 0, 5);
        due(x.copy(0, 0, 2, 4, 1), 1);
        due(x.copy(0, 4, 2, 0, 1), 1);
        int[] row = {5, 0, 0, 0, 1};
        for (int i = 0; i < 5; i++) due(at(x, 2, i), row[i]);
        due(x.copy(0, 0, 2, 0, 5), 5);
        for (int i = 0; i < 5; i++) due(at(x, 2, i), i + 1);
        for (int i = 0; i < 5; i++) due(at(x, 0, i), i + 1);
        of(39, "24 places");
        x.sheet(2, 0, 24);
        x.sheet(3, 0, 24);
        x.mark(2, 23, 9);
        due(x.copy(2, 0, 3, 0, 24), 24);
        due(at(x, 3, 23), 9);
        due(x.copy(2, 0, 3, 0, 25), INDEX);
        due(x.copy(2, 1, 3, 0, 24), INDEX);
        of(39, "as they were: they go their own ways");
        x.mark(2, 23, 10);
        due(at(x, 3, 23), 9);
        of(39, "of floats, with NO NUMBER");
        x.sheet(3, 1, 2);
        x.mark(1, 1, NONE);
        due(x.copy(1, 1, 3, 0, 2), 2);
        due(at(x, 3, 0), KIND);
        due(at(x, 3, 1), 103);
    }

    private static void copyInOne() {
        of(39, "or the same, as they were: places that lie over one another");
        int[][][] rows = {{{0, 1, 4}, {1, 1, 2, 3, 4}}, {{1, 0, 4}, {2, 3, 4, 5, 5}}, {{0, 2, 3}, {1, 2, 1, 2, 3}}, {{2, 0, 3}, {3, 4, 5, 4, 5}}, {{1, 1, 4}, {1, 2, 3, 4, 5}}, {{0, 4, 1}, {1, 2, 3, 4, 1}}};
        for (int[][] row : rows) {
            CreweChange x = twoSheets();
            due(x.copy(0, row[0][0], 0, row[0][1], row[0][2]), row[0][2]);
            for (int i = 0; i < 5; i++) due(at(x, 0, i), row[1][i]);
            CreweChange y = twoSheets();
            due(y.copy(1, row[0][0], 1, row[0][1], row[0][2]), row[0][2]);
            for (int i = 0; i < 5; i++) due(at(y, 1, i), row[1][i] + 100);
        }
    }

    private static void lay() {
        of(40, "BAD: slot 0 .. 4");
        CreweChange x = twoSheets();
        due(x.lay(0, 3, 5), 0);
        due(x.lay(4, 3, 5), 0);
        refused(Edge::crewe, BAD, y -> y.lay(-1, 0, 0), y -> y.lay(5, 0, 0), y -> y.lay(LEAST, 3, 0), y -> y.lay(MOST, 3, 0));
        of(40, "BAD: thing 0 .. 3");
        refused(Edge::crewe, BAD, y -> y.lay(0, -1, 0), y -> y.lay(0, 4, 0), y -> y.lay(0, LEAST, 0), y -> y.lay(0, MOST, 0));
        of(40, "BAD: k, no TRAIN, no SHEET");
        refused(Edge::crewe, BAD, y -> y.lay(0, 1, -1), y -> y.lay(0, 1, 4), y -> y.lay(0, 1, LEAST), y -> y.lay(0, 1, MOST), y -> y.lay(0, 2, -1), y -> y.lay(0, 2, 4), y -> y.lay(0, 2, MOST));
        of(40, "BAD: slot, ahead of NOTHING");
        refused(Edge::crewe, BAD, y -> y.lay(5, 2, 3), y -> y.lay(-1, 2, 3));
        of(40, "NOTHING: that SHEET is MISSING");
        refused(Edge::crewe, NOTHING, y -> y.lay(0, 2, 3), y -> y.lay(3, 2, 3));
        of(40, "what it held: each thing behind each other one");
        for (int first = 0; first < 4; first++) {
            for (int second = 0; second < 4; second++) {
                CreweChange y = twoSheets();
                due(y.lay(2, first, 0), 0);
                due(y.lay(2, second, 0), first);
                due(y.lay(2, 0, 0), second);
            }
        }
        of(40, "nothing and a number: k any");
        int[] any = {0, -1, LEAST, MOST, NONE, 99};
        CreweChange y = twoSheets();
        for (int k : any) {
            due(y.lay(1, 3, k), 0);
            due(y.rest(1, 1000003), k % 1000003);
            due(y.lay(1, 0, k), 3);
            due(y.rest(1, 1), NOTHING);
        }
        of(40, "the last TRAIN, the last SHEET");
        y.sheet(3, 0, 0);
        due(y.lay(1, 2, 3), 0);
        due(y.item(1, 0), INDEX);
        for (int i = 1; i < 12; i++) y.train(0, 1, 5, 5);
        due(y.lay(1, 1, 11), 2);
        due(y.lay(1, 1, 12), BAD);
        due(y.ask(1, 0), 0);
    }

    private static void layStays() {
        of(40, "a TRAIN as it is then, for good");
        CreweChange x = twoSheets();
        x.set(0, 0, 30);
        x.lay(0, 1, 0);
        x.set(0, 0, 800);
        x.turns(0, 4);
        due(x.ask(0, 1), 15);
        due(x.ask(0, 4), KIND);
        x.lay(1, 1, 0);
        due(x.ask(1, 4), 1620);
        due(x.ask(0, 1), 15);
        of(40, "a SHEET as it was then, a row of its own");
        x.lay(2, 2, 0);
        x.mark(0, 0, 77);
        due(x.item(2, 0), 1);
        x.sheet(0, -1, 0);
        due(x.item(2, 4), 5);
        due(x.item(2, 5), INDEX);
        x.sheet(0, 0, 24);
        due(x.item(2, 0), 1);
        due(x.item(2, 5), INDEX);
        of(40, "two SLOTS of one SHEET, told one behind the other");
        x.lay(3, 2, 0);
        x.mark(0, 0, 78);
        x.lay(4, 2, 0);
        due(x.item(3, 0), 0);
        due(x.item(4, 0), 78);
        of(40, "SLOTS stay by back(), the TRAIN of a SLOT, too, when it is gone");
        CreweChange y = withStops(0, 0);
        y.keep();
        y.train(2, 1, 5, 5);
        y.lay(0, 1, 0);
        y.lay(1, 3, 9);
        y.back();
        due(y.count(1), 0);
        due(y.ask(0, 2), 10);
        due(y.rest(1, 10), 9);
        of(40, "a refused one leaves what it held");
        due(y.lay(0, 1, 0), BAD);
        due(y.ask(0, 2), 10);
        due(y.lay(0, 2, 0), NOTHING);
        due(y.ask(0, 2), 10);
    }

    private static void ask() {
        of(41, "BAD: slot, kind 0 .. 5, ahead of NOTHING and KIND");
        refused(Edge::crewe, BAD, y -> y.ask(-1, 0), y -> y.ask(5, 0), y -> y.ask(LEAST, 0), y -> y.ask(0, -1), y -> y.ask(0, 6), y -> y.ask(0, MOST), y -> y.ask(3, 6), y -> y.ask(1, -1), y -> y.ask(5, 6));
        of(41, "NOTHING: it holds nothing");
        refused(Edge::crewe, NOTHING, y -> y.ask(3, 0), y -> y.ask(3, 5));
        of(41, "KIND: it is no TRAIN");
        refused(Edge::crewe, KIND, y -> y.ask(1, 0), y -> y.ask(2, 0), y -> y.ask(4, 5));
        of(41, "KIND: not of that KIND, nor of one under it");
        refused(Edge::crewe, KIND, y -> y.ask(0, 1), y -> y.ask(0, 3), y -> y.ask(0, 4), y -> y.ask(0, 5));
        of(41, "FARE by its own KIND, for whichever it is taken");
        String[] under = {"0", "01", "02", "013", "024", "05"};
        int[][] fares = {{0, 999}, {0, 499}, {10, 1009}, {0, 499}, {20, 2018}, {0, 999}};
        for (int kind = 0; kind < 6; kind++) {
            CreweChange x = withStops(0, 0);
            x.train(kind, 1, 5, 5);
            x.lay(0, 1, 0);
            x.set(0, 0, 999);
            x.lay(4, 1, 0);
            for (int as = 0; as < 6; as++) {
                boolean is = under[kind].indexOf('0' + as) >= 0;
                due(x.ask(0, as), is ? fares[kind][0] : KIND);
                due(x.ask(4, as), is ? fares[kind][1] : KIND);
            }
        }
    }

    private static void item() {
        of(42, "BAD: slot, ahead of all else");
        refused(Edge::crewe, BAD, y -> y.item(-1, 0), y -> y.item(5, 0), y -> y.item(LEAST, -1), y -> y.item(MOST, 99));
        of(42, "NOTHING, ahead of INDEX");
        refused(Edge::crewe, NOTHING, y -> y.item(3, 0), y -> y.item(3, -1));
        of(42, "KIND: it is no SHEET, ahead of INDEX");
        refused(Edge::crewe, KIND, y -> y.item(0, 0), y -> y.item(2, 0), y -> y.item(0, -1), y -> y.item(2, 99));
        of(42, "INDEX: there is no such place");
        refused(Edge::crewe, INDEX, y -> y.item(1, -1), y -> y.item(1, 3), y -> y.item(4, 5), y -> y.item(1, LEAST), y -> y.item(1, MOST));
        of(42, "KIND: NO NUMBER");
        refused(Edge::crewe, KIND, y -> y.item(4, 1));
        of(42, "the first place and the last, of shorts and of floats");
        CreweChange x = crewe();
        due(x.item(1, 0), 25);
        due(x.item(1, 1), 0);
        due(x.item(1, 2), -7);
        due(x.item(4, 0), 0);
        due(x.item(4, 4), 99999);
        of(42, "a SHEET of 24 places, and of none");
        x.sheet(3, 0, 24);
        x.mark(3, 23, -32768);
        x.lay(3, 2, 3);
        due(x.item(3, 23), -32768);
        due(x.item(3, 24), INDEX);
        x.lay(3, 2, 2);
        due(x.item(3, 0), INDEX);
    }

    private static void rest() {
        of(43, "BAD: slot, ahead of all else");
        refused(Edge::crewe, BAD, y -> y.rest(-1, 1), y -> y.rest(5, 1), y -> y.rest(LEAST, 0), y -> y.rest(MOST, 0));
        of(43, "NOTHING, ahead of NO");
        refused(Edge::crewe, NOTHING, y -> y.rest(3, 1), y -> y.rest(3, 0));
        of(43, "KIND: it is no number, ahead of NO");
        refused(Edge::crewe, KIND, y -> y.rest(0, 1), y -> y.rest(1, 1), y -> y.rest(0, 0), y -> y.rest(4, 0));
        of(43, "NO: n is 0");
        refused(Edge::crewe, NO, y -> y.rest(2, 0));
        of(43, "the rest has the sign of the number");
        int[][] rows = {{11, 4, 3}, {-11, 4, -3}, {11, -4, 3}, {-11, -4, -3}, {0, 7, 0}, {7, 7, 0}, {6, 7, 6}, {-7, 7, 0}, {5, 1, 0}, {5, -1, 0},
            {LEAST, -1, 0}, {LEAST, 1, 0}, {LEAST, 10, -8}, {LEAST, LEAST, 0}, {LEAST, MOST, -1}, {MOST, LEAST, MOST}, {MOST, MOST, 0}, {MOST, -1, 0}, {MOST, 10, 7}, {NONE, 7, NONE % 7}};
        CreweChange x = new CreweChange();
        for (int[] row : rows) {
            x.lay(4, 3, row[0]);
            due(x.rest(4, row[1]), row[2]);
        }
    }
}
