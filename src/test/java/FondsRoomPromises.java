import java.util.NoSuchElementException;

/** Each promise of the document: ordinary inputs, the edges that it names, wrong inputs. */
public final class FondsRoomPromises {
    private static final int NONE = FondsRoom.NONE;
    private static final int THROWS = Integer.MIN_VALUE;
    private static String promise = "";
    private static int asked = 0;
    private static int wrong = 0;

    private static void due(String call, int got, int want) {
        asked++;
        if (got != want) {
            wrong++;
            System.out.println(promise + ": " + call + " answered " + got + ", due is " + want);
        }
    }

    private static void due(String call, boolean got, boolean want) {
        due(call, got ? 1 : 0, want ? 1 : 0);
    }

    private static int eventOf(FondsRoom x, int i, int what) {
        try {
            return x.event(i, what);
        } catch (NoSuchElementException e) {
            return THROWS;
        }
    }

    /** The event i is (turn, reader, what, number). */
    private static void dueEvent(FondsRoom x, int i, int... want) {
        for (int what = 0; what < 4; what++) {
            due("event(" + i + ", " + what + ")", eventOf(x, i, what), want[what]);
        }
    }

    /** The events are just these (turn, reader, what, number), from the first one on. */
    private static void dueEvents(FondsRoom x, int[]... want) {
        due("count(4)", x.count(4), want.length);
        for (int i = 0; i < want.length; i++) {
            dueEvent(x, i, want[i]);
        }
        due("event(" + want.length + ", 0)", eventOf(x, want.length, 0), THROWS);
    }

    private static int[] row(int... numbers) {
        return numbers;
    }

    private static FondsRoom room(int plainDesks, int watchedDesks, int fetchers, int copyists, int way) {
        FondsRoom x = new FondsRoom();
        for (int i = 0; i < plainDesks; i++) {
            x.desk(false);
        }
        for (int i = 0; i < watchedDesks; i++) {
            x.desk(true);
        }
        due("people", x.people(fetchers, copyists, way), true);
        return x;
    }

    /** So many boxes that are not precious, each of a fonds of its own. */
    private static void boxes(FondsRoom x, int count) {
        for (int i = 0; i < count; i++) {
            due("box(" + i + ", false)", x.box(i, false), i);
        }
    }

    private static int newReader(FondsRoom x, int arrival, int rank) {
        return x.reader(arrival, rank, false);
    }

    // ---- 1 ----

    private static void aNewObject() {
        promise = "1 a new object";
        FondsRoom x = new FondsRoom();
        int[] counts = {0, 0, 0, 0, 0, 0, 1, 0, 0, 0, 0, 0, NONE, 0, 0};
        for (int what = 0; what < counts.length; what++) {
            due("count(" + what + ")", x.count(what), counts[what]);
        }
        due("NONE", NONE, -1);
        due("about(0, 0)", x.about(0, 0), NONE);
        due("held(0, 0)", x.held(0, 0), NONE);
        due("refused(0, 0)", x.refused(0, 0), NONE);
        due("place(0)", x.place(0), NONE);
        due("whose(0)", x.whose(0), NONE);
        due("seated(0)", x.seated(0), NONE);
        due("event(0, 0)", eventOf(x, 0, 0), THROWS);
        due("worker(1, 1, 0)", x.worker(1, 1, 1), 0);
        due("worker(1, 2, 1)", x.worker(1, 2, 1), NONE);
        due("worker(2, 0, 1)", x.worker(2, 0, 1), 0);
        due("worker(2, 1, 1)", x.worker(2, 1, 1), NONE);
        due("run(200)", x.run(200), 200);
        due("count(6)", x.count(6), 1);
    }

    /** Without people() a way is of two turns, and there are two fetchers. */
    private static void theFirstPeople() {
        promise = "1 the first people";
        FondsRoom x = new FondsRoom();
        boxes(x, 3);
        for (int i = 0; i < 3; i++) {
            x.desk(false);
            newReader(x, 1, 0);
            x.ask(i, i);
        }
        x.run(2);
        due("worker(1, 0, 0)", x.worker(1, 0, 0), 0);
        due("worker(1, 0, 1)", x.worker(1, 0, 1), 2);
        due("worker(1, 1, 0)", x.worker(1, 1, 0), 1);
        due("place(2)", x.place(2), 0);
    }

    // ---- 2 to 5 ----

    private static void desk() {
        promise = "2 desk";
        FondsRoom x = new FondsRoom();
        for (int i = 0; i < 12; i++) {
            due("desk", x.desk(i % 2 == 1), i);
        }
        due("desk, the 13th", x.desk(false), NONE);
        due("count(1)", x.count(1), 12);
        FondsRoom y = new FondsRoom();
        y.run(0);
        due("desk behind run(0)", y.desk(false), 0);
        y.run(1);
        due("desk behind run(1)", y.desk(false), NONE);
        due("count(1)", y.count(1), 1);
    }

    private static void box() {
        promise = "3 box";
        FondsRoom x = new FondsRoom();
        due("box(-1, false)", x.box(-1, false), NONE);
        due("box(10, true)", x.box(10, true), NONE);
        due("box(max, true)", x.box(Integer.MAX_VALUE, true), NONE);
        due("box(min, true)", x.box(Integer.MIN_VALUE, true), NONE);
        for (int i = 0; i < 40; i++) {
            due("box", x.box(i % 10, i % 3 == 0), i);
        }
        due("box, the 41st", x.box(0, false), NONE);
        due("count(2)", x.count(2), 40);
        due("count(5)", x.count(5), 40);
        FondsRoom y = new FondsRoom();
        y.run(1);
        due("box behind run(1)", y.box(0, false), NONE);
        due("count(2)", y.count(2), 0);
    }

    private static void people() {
        promise = "4 people";
        FondsRoom x = new FondsRoom();
        int[][] wrongOnes = {{0, 1, 1}, {5, 1, 1}, {1, 0, 1}, {1, 4, 1}, {1, 1, 0}, {1, 1, 6},
            {-1, 1, 1}, {Integer.MAX_VALUE, 1, 1}, {1, Integer.MIN_VALUE, 1}, {1, 1, Integer.MAX_VALUE}};
        for (int[] told : wrongOnes) {
            due("people", x.people(told[0], told[1], told[2]), false);
        }
        due("worker(1, 1, 1)", x.worker(1, 1, 1), 0);
        due("worker(1, 2, 1)", x.worker(1, 2, 1), NONE);
        due("people(4, 3, 5)", x.people(4, 3, 5), true);
        due("worker(1, 3, 1)", x.worker(1, 3, 1), 0);
        due("worker(2, 2, 1)", x.worker(2, 2, 1), 0);
        due("people(1, 1, 1)", x.people(1, 1, 1), true);
        due("worker(1, 1, 1)", x.worker(1, 1, 1), NONE);
        due("worker(2, 1, 1)", x.worker(2, 1, 1), NONE);
        x.run(1);
        due("people(2, 2, 2) behind run(1)", x.people(2, 2, 2), false);
        due("worker(1, 1, 1)", x.worker(1, 1, 1), NONE);

        FondsRoom y = room(1, 0, 1, 1, 5);
        boxes(y, 1);
        newReader(y, 1, 0);
        y.ask(0, 0);
        y.run(2);
        due("worker(1, 0, 1)", y.worker(1, 0, 1), 5);
        y.run(4);
        due("place(0)", y.place(0), 3);
        y.run(1);
        due("place(0)", y.place(0), 4);
    }

    private static void reader() {
        promise = "5 reader";
        FondsRoom x = new FondsRoom();
        due("reader(0, 0, false)", x.reader(0, 0, false), NONE);
        due("reader(1001, 0, false)", x.reader(1001, 0, false), NONE);
        due("reader(min, 0, false)", x.reader(Integer.MIN_VALUE, 0, false), NONE);
        due("reader(1, -1, false)", x.reader(1, -1, false), NONE);
        due("reader(1, 4, false)", x.reader(1, 4, false), NONE);
        due("count(3)", x.count(3), 0);
        due("reader(1, 0, false)", x.reader(1, 0, false), 0);
        due("reader(1000, 3, true)", x.reader(1000, 3, true), 1);
        for (int i = 2; i < 20; i++) {
            due("reader", x.reader(5, 1, false), i);
        }
        due("reader, the 21st", x.reader(5, 1, false), NONE);
        due("count(3)", x.count(3), 20);

        FondsRoom y = new FondsRoom();
        y.desk(false);
        y.run(7);
        due("reader(3, 0, false) at turn 7", y.reader(3, 0, false), 0);
        due("about(0, 0)", y.about(0, 0), 0);
        y.bell(9);
        y.run(1);
        due("about(0, 0)", y.about(0, 0), 8);
        dueEvent(y, 0, 8, 0, 1, 1);
        due("reader ahead of the bell", y.reader(3, 0, false), 1);
        y.run(1);
        due("reader at the bell", y.reader(20, 0, false), NONE);
        y.run(1);
        due("reader behind the bell", y.reader(20, 0, false), NONE);
        due("count(3)", y.count(3), 2);
    }

    // ---- 6 to 9: the telling of steps ----

    private static void tellingOfSteps() {
        promise = "6 to 9 telling";
        FondsRoom x = room(1, 0, 1, 1, 1);
        boxes(x, 2);
        newReader(x, 1, 0);
        int[] noReader = {-1, 1, 20, Integer.MAX_VALUE, Integer.MIN_VALUE};
        for (int r : noReader) {
            due("ask(" + r + ", 0)", x.ask(r, 0), false);
            due("read(" + r + ", 1)", x.read(r, 1), false);
            due("copy(" + r + ", 0, 1, false)", x.copy(r, 0, 1, false), false);
            due("back(" + r + ", 0)", x.back(r, 0), false);
        }
        int[] noBox = {-1, 2, 40, Integer.MAX_VALUE, Integer.MIN_VALUE};
        for (int b : noBox) {
            due("ask(0, " + b + ")", x.ask(0, b), false);
            due("copy(0, " + b + ", 1, false)", x.copy(0, b, 1, false), false);
            due("back(0, " + b + ")", x.back(0, b), false);
        }
        int[] noTurns = {0, -1, 51, Integer.MAX_VALUE, Integer.MIN_VALUE};
        for (int n : noTurns) {
            due("read(0, " + n + ")", x.read(0, n), false);
        }
        int[] noPages = {0, -1, 31, Integer.MAX_VALUE, Integer.MIN_VALUE};
        for (int n : noPages) {
            due("copy(0, 0, " + n + ", true)", x.copy(0, 0, n, true), false);
        }
        due("read(0, 1)", x.read(0, 1), true);
        due("read(0, 50)", x.read(0, 50), true);
        for (int i = 2; i < 16; i++) {
            due("back(0, 1)", x.back(0, 1), true);
        }
        due("ask, the 17th", x.ask(0, 0), false);
        due("read, the 17th", x.read(0, 1), false);
        due("copy, the 17th", x.copy(0, 0, 1, false), false);
        due("back, the 17th", x.back(0, 0), false);
        x.run(2);
        due("about(0, 2)", x.about(0, 2), 1);
        due("a step more while others are begun", x.read(0, 1), false);
        x.run(51);
        due("about(0, 0)", x.about(0, 0), 5);
        due("about(0, 2)", x.about(0, 2), 16);
        due("about(0, 10)", x.about(0, 10), 14);
    }

    private static void tellingToReadersThatAreAway() {
        promise = "6 to 9 away";
        FondsRoom x = room(3, 0, 1, 1, 1);
        boxes(x, 1);
        newReader(x, 1, 0);
        newReader(x, 1, 0);
        newReader(x, 9, 0);
        due("a step before it came", x.read(1, 9), true);
        x.mishap(3, 0, 1);
        x.run(1);
        due("a step in state 8", x.read(2, 1), true);
        x.run(1);
        due("about(0, 0)", x.about(0, 0), 5);
        due("a step in state 3", x.read(1, 1), true);
        x.run(1);
        due("about(1, 0)", x.about(1, 0), 7);
        x.bell(4);
        x.run(1);
        due("about(2, 0)", x.about(2, 0), 6);
        for (int r = 0; r < 3; r++) {
            due("ask(" + r + ", 0)", x.ask(r, 0), false);
            due("read(" + r + ", 1)", x.read(r, 1), false);
            due("copy(" + r + ", 0, 1, false)", x.copy(r, 0, 1, false), false);
            due("back(" + r + ", 0)", x.back(r, 0), false);
        }
    }

    // ---- 6: ask ----

    private static void askRules() {
        promise = "6 rules of ask";
        FondsRoom x = room(2, 1, 4, 1, 1);
        x.box(0, false);
        x.box(1, false);
        x.box(2, false);
        x.box(3, true);
        x.box(0, false);
        newReader(x, 1, 0);
        newReader(x, 3, 0);
        x.ask(0, 0);
        x.ask(0, 4);
        x.ask(0, 3);
        x.ask(0, 4);
        x.ask(0, 1);
        x.ask(0, 0);
        x.read(0, 9);
        x.ask(1, 4);
        x.ask(1, 3);
        x.ask(1, 1);
        x.ask(1, 2);
        x.read(1, 9);
        x.run(6);
        int[] rules = {2, 3, 1};
        due("about(0, 10)", x.about(0, 10), rules.length);
        for (int i = 0; i < rules.length; i++) {
            due("refused(0, " + i + ")", x.refused(0, i), rules[i]);
        }
        due("refused(0, 3)", x.refused(0, 3), NONE);
        due("refused(0, -1)", x.refused(0, -1), NONE);
        due("about(0, 3)", x.about(0, 3), 3);
        due("place(0)", x.place(0), 1);
        due("place(4)", x.place(4), 1);
        due("held(0, 0)", x.held(0, 0), 0);
        due("held(0, 1)", x.held(0, 1), 1);
        due("held(0, 2)", x.held(0, 2), 4);
        due("held(0, 3)", x.held(0, 3), NONE);
        due("held(0, -1)", x.held(0, -1), NONE);
        due("about(0, 2)", x.about(0, 2), 7);
        due("refused(1, 0), HAS it", x.refused(1, 0), 4);
        due("refused(1, 1), not watched", x.refused(1, 1), 2);
        due("refused(1, 2), has a ticket", x.refused(1, 2), 4);
        due("about(1, 10)", x.about(1, 10), 3);
        due("held(1, 0)", x.held(1, 0), 2);
    }

    /** Rule 1 is looked at before 2, 2 before 3, 3 before 4. */
    private static void theFirstRuleRefuses() {
        promise = "6 the first rule";
        FondsRoom x = room(1, 1, 4, 1, 1);
        x.box(0, false);
        x.box(1, false);
        x.box(2, false);
        x.box(3, true);
        newReader(x, 1, 0);
        x.reader(1, 0, true);
        x.ask(1, 3);
        x.read(1, 50);
        x.ask(0, 3);
        x.ask(0, 0);
        x.ask(0, 1);
        x.ask(0, 2);
        x.ask(0, 3);
        x.ask(0, 0);
        x.run(6);
        due("refused(0, 0), 2 ahead of 4", x.refused(0, 0), 2);
        due("refused(0, 1), 1 ahead of 2", x.refused(0, 1), 1);
        due("refused(0, 2), 1 ahead of 3", x.refused(0, 2), 1);
        due("whose(3)", x.whose(3), 1);
    }

    private static void eventsOfSteps() {
        promise = "6 to 9 events of steps";
        FondsRoom x = room(1, 0, 1, 1, 1);
        boxes(x, 2);
        newReader(x, 1, 0);
        x.back(0, 0);
        x.copy(0, 0, 1, false);
        x.ask(0, 1);
        x.ask(0, 1);
        x.copy(0, 1, 2, false);
        x.back(0, 1);
        x.read(0, 1);
        x.run(8);
        dueEvents(x, row(1, 0, 1, 1), row(1, 0, 2, 0), row(2, 0, 4, 5), row(2, 0, 4, 5), row(2, 0, 3, 1),
            row(3, 0, 5, 1), row(3, 0, 3, 1), row(3, 0, 4, 3), row(5, 0, 6, 1), row(5, 0, 7, 1),
            row(6, NONE, 9, 1), row(6, 0, 8, 5));
        due("about(0, 2)", x.about(0, 2), 7);
        due("about(0, 10)", x.about(0, 10), 3);
    }

    /** A box that was given back must go home first. */
    private static void askForALeftBox() {
        promise = "6 a left box";
        FondsRoom x = room(1, 0, 1, 1, 2);
        boxes(x, 1);
        newReader(x, 1, 0);
        x.ask(0, 0);
        x.back(0, 0);
        x.ask(0, 0);
        x.run(4);
        due("place(0)", x.place(0), 4);
        due("whose(0)", x.whose(0), 0);
        due("about(0, 0)", x.about(0, 0), 2);
        due("about(0, 3)", x.about(0, 3), 0);
        due("queue(1, -1)", x.queue(1, NONE), 1);
        due("queue(1, 0)", x.queue(1, 0), 0);
        x.run(2);
        due("place(0)", x.place(0), 3);
        due("queue(1, -1)", x.queue(1, NONE), 0);
        due("queue(1, 0)", x.queue(1, 0), NONE);
        x.run(2);
        due("about(0, 0)", x.about(0, 0), 5);
        due("place(0)", x.place(0), 4);
        x.run(2);
        due("count(6)", x.count(6), 1);
        due("count(11)", x.count(11), 4);
        due("about(0, 6)", x.about(0, 6), 6);
    }

    // ---- 7: read ----

    private static void readTurns() {
        promise = "7 read";
        FondsRoom x = room(1, 0, 1, 1, 1);
        newReader(x, 1, 0);
        x.read(0, 3);
        x.read(0, 1);
        x.run(2);
        due("about(0, 0)", x.about(0, 0), 3);
        due("about(0, 4)", x.about(0, 4), 3);
        x.run(2);
        due("about(0, 4)", x.about(0, 4), 1);
        due("about(0, 2)", x.about(0, 2), 1);
        x.run(1);
        due("about(0, 0)", x.about(0, 0), 3);
        due("about(0, 4)", x.about(0, 4), 1);
        due("about(0, 2)", x.about(0, 2), 2);
        x.run(1);
        due("about(0, 0)", x.about(0, 0), 5);
        due("about(0, 4)", x.about(0, 4), 0);
    }

    // ---- 8: copy ----

    private static void copyOrder() {
        promise = "8 copies in order";
        FondsRoom x = room(6, 0, 4, 1, 1);
        boxes(x, 6);
        for (int i = 0; i < 6; i++) {
            newReader(x, 1, 0);
            x.ask(i, i);
            if (i >= 4) {
                x.read(i, 1);
            }
            x.copy(i, i, 1, i != 1);
        }
        x.run(3);
        due("worker(2, 0, 0), the first urgent one", x.worker(2, 0, 0), 0);
        due("queue(2, -1)", x.queue(2, NONE), 3);
        due("queue(2, 0)", x.queue(2, 0), 1);
        due("queue(2, 3)", x.queue(2, 3), NONE);
        due("queue(2, -2)", x.queue(2, -2), NONE);
        due("count(14)", x.count(14), 1);
        x.run(1);
        due("worker(2, 0, 0)", x.worker(2, 0, 0), 2);
        due("count(14)", x.count(14), 2);
        x.run(1);
        due("worker(2, 0, 0)", x.worker(2, 0, 0), 3);
        due("count(14)", x.count(14), 3);
        x.run(1);
        due("worker(2, 0, 0), behind three urgent ones", x.worker(2, 0, 0), 1);
        due("count(14)", x.count(14), 0);
        due("count(10)", x.count(10), 3);
        x.run(1);
        due("worker(2, 0, 0)", x.worker(2, 0, 0), 4);
        due("count(10)", x.count(10), 4);
    }

    private static void onlyUrgentCopies() {
        promise = "8 only urgent copies";
        FondsRoom x = room(5, 0, 4, 3, 1);
        boxes(x, 5);
        for (int i = 0; i < 5; i++) {
            newReader(x, 1, 0);
            x.ask(i, i);
            x.copy(i, i, 2, true);
        }
        x.run(4);
        due("worker(2, 0, 0)", x.worker(2, 0, 0), 0);
        due("worker(2, 2, 0)", x.worker(2, 2, 0), 2);
        due("worker(2, 2, 1)", x.worker(2, 2, 1), 1);
        due("count(14)", x.count(14), 3);
        x.run(1);
        due("worker(2, 0, 0), the first urgent one, for lack of another", x.worker(2, 0, 0), 3);
        due("count(14)", x.count(14), 3);
        due("about(3, 0)", x.about(3, 0), 4);
        due("place(3)", x.place(3), 6);
        due("whose(3)", x.whose(3), 3);
        due("about(3, 3)", x.about(3, 3), 1);
    }

    private static void copyForAReader() {
        promise = "8 a copy for a reader";
        FondsRoom x = room(2, 0, 2, 1, 1);
        boxes(x, 2);
        newReader(x, 1, 0);
        newReader(x, 1, 0);
        x.ask(0, 0);
        x.copy(0, 0, 30, false);
        x.copy(0, 0, 1, false);
        x.ask(1, 1);
        x.copy(1, 1, 1, false);
        x.run(3);
        due("worker(2, 0, 1)", x.worker(2, 0, 1), 30);
        due("place(1)", x.place(1), 5);
        due("held(1, 0)", x.held(1, 0), 1);
        x.run(29);
        due("worker(2, 0, 1)", x.worker(2, 0, 1), 1);
        due("count(10)", x.count(10), 0);
        x.run(1);
        due("place(0), waits for its second copy", x.place(0), 5);
        due("place(1)", x.place(1), 6);
        due("about(0, 9)", x.about(0, 9), 1);
        due("about(0, 7)", x.about(0, 7), 31);
        due("about(0, 2)", x.about(0, 2), 3);
        x.run(2);
        due("about(0, 9)", x.about(0, 9), 2);
        due("about(0, 0)", x.about(0, 0), 5);
        due("about(1, 9)", x.about(1, 9), 1);
        due("about(1, 7)", x.about(1, 7), 31);
        due("count(9)", x.count(9), 32);
        due("count(10)", x.count(10), 3);
        due("worker(2, 0, 0)", x.worker(2, 0, 0), NONE);
        due("worker(2, 0, 1)", x.worker(2, 0, 1), 0);
    }

    private static void copiedBoxIsAtTheDeskAgain() {
        promise = "8 behind its copy a box is at the desk again";
        FondsRoom x = room(1, 0, 1, 1, 1);
        boxes(x, 1);
        newReader(x, 1, 0);
        x.ask(0, 0);
        x.copy(0, 0, 2, false);
        x.read(0, 2);
        x.run(4);
        due("place(0)", x.place(0), 6);
        due("about(0, 0)", x.about(0, 0), 4);
        x.run(1);
        due("place(0), the copy is made", x.place(0), 1);
        due("about(0, 0)", x.about(0, 0), 3);
        due("about(0, 3)", x.about(0, 3), 1);
        due("held(0, 0)", x.held(0, 0), 0);
        due("whose(0)", x.whose(0), 0);
        due("queue(2, -1)", x.queue(2, NONE), 0);
        x.run(1);
        due("place(0), while it reads", x.place(0), 1);
        x.run(1);
        due("about(0, 0)", x.about(0, 0), 5);
        due("place(0)", x.place(0), 4);
    }

    // ---- 9: back ----

    private static void backBoxes() {
        promise = "9 back";
        FondsRoom x = room(2, 0, 1, 1, 1);
        x.box(4, false);
        x.box(4, false);
        newReader(x, 1, 0);
        newReader(x, 1, 0);
        x.ask(0, 0);
        x.back(0, 1);
        x.back(0, 0);
        x.back(0, 0);
        x.read(0, 5);
        x.read(1, 1);
        x.ask(1, 1);
        x.run(3);
        due("place(0)", x.place(0), 4);
        due("whose(0)", x.whose(0), NONE);
        due("about(0, 3)", x.about(0, 3), 0);
        due("about(0, 10)", x.about(0, 10), 2);
        due("refused(0, 0)", x.refused(0, 0), 5);
        due("refused(0, 1)", x.refused(0, 1), 5);
        due("about(0, 0)", x.about(0, 0), 3);
        due("about(1, 0), the fonds is free at once", x.about(1, 0), 2);
        due("about(1, 10)", x.about(1, 10), 0);
        due("whose(1)", x.whose(1), 1);
    }

    // ---- 10: bell ----

    private static void bellTelling() {
        promise = "10 bell";
        FondsRoom x = new FondsRoom();
        due("bell(0)", x.bell(0), false);
        due("bell(-1)", x.bell(-1), false);
        due("bell(min)", x.bell(Integer.MIN_VALUE), false);
        x.run(5);
        due("bell(5)", x.bell(5), false);
        due("count(12)", x.count(12), NONE);
        due("bell(6)", x.bell(6), true);
        due("bell(7)", x.bell(7), false);
        due("count(12)", x.count(12), 6);
        x.run(3);
        due("bell(20)", x.bell(20), false);
        due("count(12)", x.count(12), 6);
        FondsRoom y = new FondsRoom();
        due("bell(max)", y.bell(Integer.MAX_VALUE), true);
        due("count(12)", y.count(12), Integer.MAX_VALUE);
        due("reader", y.reader(1, 0, false), 0);
    }

    private static void bellRings() {
        promise = "10 the bell rings";
        int[] states = {4, 4, 3, 2, 5, 8, 0};
        FondsRoom x = ringingRoom(states);
        x.run(1);
        for (int r = 0; r < 7; r++) {
            due("about(" + r + ", 0)", x.about(r, 0), r == 4 ? 5 : 6);
            due("about(" + r + ", 1)", x.about(r, 1), NONE);
            due("about(" + r + ", 3)", x.about(r, 3), 0);
            due("about(" + r + ", 4)", x.about(r, 4), 0);
        }
        due("place(0), is copied on", x.place(0), 6);
        due("worker(2, 0, 1)", x.worker(2, 0, 1), 4);
        due("place(1), waited for a copy", x.place(1), 4);
        due("place(2), was read", x.place(2), 4);
        due("place(3), was on its way to a reader", x.place(3), 0);
        due("queue(0, -1)", x.queue(0, NONE), 0);
        due("queue(1, -1)", x.queue(1, NONE), 0);
        due("queue(2, -1)", x.queue(2, NONE), 0);
        for (int b = 0; b < 6; b++) {
            due("whose(" + b + ")", x.whose(b), NONE);
        }
        for (int d = 0; d < 5; d++) {
            due("seated(" + d + ")", x.seated(d), NONE);
        }
        int last = x.count(4);
        int[] sent = {0, 1, 2, 3, 5, 6};
        for (int i = 0; i < sent.length; i++) {
            dueEvent(x, last - sent.length + i, 10, sent[i], 8, 6);
        }
        due("count(6)", x.count(6), 0);
        x.run(5);
        due("count(10)", x.count(10), 1);
        due("place(0)", x.place(0), 4);
        due("about(0, 9)", x.about(0, 9), 0);
        x.run(3);
        due("count(6)", x.count(6), 1);
        due("count(4), HOME three times", x.count(4), last + 3);
        dueEvent(x, last + 2, 17, NONE, 9, 0);
    }

    /** A room at turn 9 whose bell is for turn 10, its seven readers in these states. */
    private static FondsRoom ringingRoom(int[] states) {
        FondsRoom x = room(5, 0, 4, 1, 3);
        boxes(x, 6);
        for (int i = 0; i < 7; i++) {
            newReader(x, i == 6 ? 50 : i == 5 ? 9 : 1, 0);
        }
        x.ask(0, 0);
        x.copy(0, 0, 9, false);
        x.ask(1, 1);
        x.copy(1, 1, 9, false);
        x.ask(2, 2);
        x.read(2, 30);
        x.read(3, 6);
        x.ask(3, 3);
        x.bell(10);
        x.run(9);
        for (int r = 0; r < 7; r++) {
            due("about(" + r + ", 0) ahead of the bell", x.about(r, 0), states[r]);
        }
        due("place(3) ahead of the bell", x.place(3), 3);
        due("place(0) ahead of the bell", x.place(0), 6);
        due("worker(2, 0, 1) ahead of the bell", x.worker(2, 0, 1), 5);
        return x;
    }

    // ---- 11: mishap ----

    private static void mishapTelling() {
        promise = "11 mishap";
        FondsRoom x = room(1, 0, 4, 3, 1);
        newReader(x, 1, 0);
        x.run(2);
        due("mishap(2, 0, 0)", x.mishap(2, 0, 0), false);
        due("mishap(1, 0, 0)", x.mishap(1, 0, 0), false);
        due("mishap(min, 0, 0)", x.mishap(Integer.MIN_VALUE, 0, 0), false);
        int[][] nobody = {{0, 1}, {0, -1}, {1, 4}, {1, -1}, {2, 3}, {2, -1}, {3, 0}, {-1, 0},
            {Integer.MAX_VALUE, 0}, {0, Integer.MIN_VALUE}, {1, Integer.MAX_VALUE}};
        for (int[] one : nobody) {
            due("mishap(3, " + one[0] + ", " + one[1] + ")", x.mishap(3, one[0], one[1]), false);
        }
        due("count(13)", x.count(13), 0);
        due("mishap(3, 0, 0), of a reader that left", x.mishap(3, 0, 0), true);
        due("mishap(3, 1, 3)", x.mishap(3, 1, 3), true);
        due("mishap(4, 2, 2)", x.mishap(4, 2, 2), true);
        for (int i = 3; i < 30; i++) {
            due("mishap(max, 0, 0)", x.mishap(Integer.MAX_VALUE, 0, 0), true);
        }
        due("mishap, the 31st", x.mishap(3, 0, 0), false);
        due("count(13)", x.count(13), 30);
        x.run(1);
        due("count(13)", x.count(13), 28);
        due("about(0, 0)", x.about(0, 0), 5);
        due("mishap(4, 0, 0)", x.mishap(4, 0, 0), true);
        due("mishap(4, 0, 0)", x.mishap(4, 0, 0), true);
        due("mishap(4, 0, 0)", x.mishap(4, 0, 0), false);
        x.run(1);
        due("count(13)", x.count(13), 27);
    }

    private static void mishapsOfReaders() {
        promise = "11 mishaps of readers";
        FondsRoom x = room(1, 0, 1, 1, 3);
        boxes(x, 1);
        newReader(x, 1, 0);
        newReader(x, 1, 0);
        newReader(x, 5, 0);
        x.ask(0, 0);
        x.ask(1, 0);
        x.mishap(1, 0, 2);
        x.mishap(1, 0, 0);
        x.mishap(4, 0, 0);
        x.run(3);
        due("about(0, 0), a mishap before it came", x.about(0, 0), 2);
        x.run(1);
        due("about(0, 0)", x.about(0, 0), 7);
        due("about(0, 1)", x.about(0, 1), NONE);
        due("seated(0)", x.seated(0), 1);
        due("place(0), its fetcher goes on", x.place(0), 3);
        due("worker(1, 0, 1)", x.worker(1, 0, 1), 1);
        due("whose(0)", x.whose(0), NONE);
        x.run(1);
        // The fetcher came in c with no ticket left; the box was LEFT when reader 1 asked in f.
        due("place(0)", x.place(0), 4);
        due("whose(0)", x.whose(0), 1);
        due("about(1, 0)", x.about(1, 0), 2);
        due("about(2, 0)", x.about(2, 0), 1);
        x.mishap(6, 0, 2);
        x.run(1);
        due("about(2, 0), a mishap in line", x.about(2, 0), 7);
        due("about(2, 5)", x.about(2, 5), 1);
        due("queue(0, -1)", x.queue(0, NONE), 0);
        due("count(4)", x.count(4), 9);
        dueEvent(x, 4, 4, 0, 8, 7);
        dueEvent(x, 8, 6, 2, 8, 7);
        x.mishap(8, 0, 1);
        x.run(2);
        due("about(1, 0)", x.about(1, 0), 7);
        due("whose(0)", x.whose(0), NONE);
        due("place(0)", x.place(0), 0);
        due("queue(1, -1)", x.queue(1, NONE), 0);
        due("count(6)", x.count(6), 1);
        due("count(11)", x.count(11), 2);
    }

    /** The ticket of another reader for a box that is on its way to one who is gone. */
    private static void boxOnItsWayToNobody() {
        promise = "11 a box on its way to nobody";
        FondsRoom x = room(2, 0, 1, 1, 5);
        boxes(x, 1);
        newReader(x, 1, 0);
        newReader(x, 1, 0);
        x.ask(0, 0);
        x.read(1, 1);
        x.ask(1, 0);
        x.mishap(3, 0, 0);
        x.run(3);
        due("place(0)", x.place(0), 3);
        due("whose(0)", x.whose(0), 1);
        due("queue(1, -1)", x.queue(1, NONE), 0);
        x.run(4);
        due("place(0), LEFT and taken at once", x.place(0), 4);
        due("about(1, 0)", x.about(1, 0), 2);
        due("about(1, 3)", x.about(1, 3), 0);
        due("queue(1, 0)", x.queue(1, 0), 1);
        x.run(5);
        due("place(0)", x.place(0), 3);
        x.run(5);
        due("about(1, 0)", x.about(1, 0), 5);
        due("about(1, 6)", x.about(1, 6), 14);

        FondsRoom y = room(2, 0, 1, 1, 5);
        boxes(y, 1);
        newReader(y, 1, 0);
        newReader(y, 1, 0);
        y.ask(0, 0);
        y.read(1, 1);
        y.ask(1, 0);
        y.mishap(3, 0, 0);
        y.mishap(4, 1, 0);
        y.run(4);
        due("place(0), on its way to the other", y.place(0), 3);
        due("worker(1, 0, 1)", y.worker(1, 0, 1), 5);
        y.run(5);
        due("about(1, 0)", y.about(1, 0), 5);
        dueEvent(y, y.count(4) - 2, 9, 1, 5, 0);
    }

    private static void mishapsOfFetchers() {
        promise = "11 mishaps of fetchers";
        FondsRoom x = room(2, 0, 1, 1, 3);
        boxes(x, 2);
        newReader(x, 1, 0);
        newReader(x, 1, 0);
        x.ask(0, 1);
        x.ask(1, 0);
        x.read(1, 50);
        x.mishap(1, 1, 0);
        x.mishap(4, 1, 0);
        x.run(3);
        due("worker(1, 0, 0)", x.worker(1, 0, 0), 1);
        due("worker(1, 0, 1)", x.worker(1, 0, 1), 2);
        due("queue(1, -1)", x.queue(1, NONE), 1);
        due("queue(1, 0)", x.queue(1, 0), 1);
        x.run(1);
        due("worker(1, 0, 0), the ticket is the first still", x.worker(1, 0, 0), 1);
        due("worker(1, 0, 1)", x.worker(1, 0, 1), 3);
        due("count(11)", x.count(11), 2);
        int before = x.count(4);
        x.run(3);
        due("about(0, 0)", x.about(0, 0), 5);
        due("place(1)", x.place(1), 4);
        due("count(4), no event of the mishap", x.count(4), before + 2);
        x.mishap(9, 1, 0);
        x.run(1);
        due("worker(1, 0, 1)", x.worker(1, 0, 1), 2);
        x.run(1);
        due("place(1), LEFT and taken again", x.place(1), 4);
        due("worker(1, 0, 1)", x.worker(1, 0, 1), 3);
        due("count(11)", x.count(11), 4);
        due("count(4)", x.count(4), before + 2);
    }

    private static void freeBehindAMishap() {
        promise = "11 free behind a mishap";
        FondsRoom x = room(2, 0, 1, 1, 3);
        boxes(x, 1);
        newReader(x, 1, 0);
        x.ask(0, 0);
        x.mishap(3, 0, 0);
        x.mishap(3, 1, 0);
        x.run(3);
        due("place(0)", x.place(0), 0);
        due("worker(1, 0, 0)", x.worker(1, 0, 0), NONE);
        due("worker(1, 0, 1)", x.worker(1, 0, 1), 0);
        due("count(11)", x.count(11), 1);

        FondsRoom y = room(2, 0, 1, 1, 1);
        boxes(y, 1);
        newReader(y, 1, 0);
        y.ask(0, 0);
        y.copy(0, 0, 9, false);
        y.mishap(5, 0, 0);
        y.mishap(5, 2, 0);
        y.run(5);
        due("place(0)", y.place(0), 4);
        due("worker(2, 0, 0)", y.worker(2, 0, 0), NONE);
        due("worker(2, 0, 1)", y.worker(2, 0, 1), 0);
        due("count(10)", y.count(10), 0);
    }

    private static void mishapsOfCopyists() {
        promise = "11 mishaps of copyists";
        FondsRoom x = room(3, 0, 4, 1, 1);
        boxes(x, 3);
        for (int i = 0; i < 3; i++) {
            newReader(x, 1, 0);
            x.ask(i, i);
            x.copy(i, i, 3, i < 2);
        }
        x.mishap(1, 2, 0);
        x.mishap(5, 2, 0);
        x.run(4);
        due("worker(2, 0, 1)", x.worker(2, 0, 1), 2);
        due("count(14)", x.count(14), 1);
        x.run(1);
        due("worker(2, 0, 0), its ticket as it was", x.worker(2, 0, 0), 0);
        due("worker(2, 0, 1), begun anew", x.worker(2, 0, 1), 3);
        due("count(14), a mishap's too", x.count(14), 2);
        due("count(10)", x.count(10), 0);
        x.mishap(6, 2, 0);
        x.run(1);
        due("count(14)", x.count(14), 3);
        x.mishap(7, 2, 0);
        x.run(1);
        due("worker(2, 0, 0), behind three urgent begins", x.worker(2, 0, 0), 2);
        due("count(14)", x.count(14), 0);
        due("queue(2, 0)", x.queue(2, 0), 0);
        due("queue(2, 1)", x.queue(2, 1), 1);
        due("about(0, 0)", x.about(0, 0), 4);
        // As they were told: the reader goes first, so that nobody HAS the box when the copy stops.
        x.mishap(8, 0, 2);
        x.mishap(8, 2, 0);
        x.run(1);
        due("place(2)", x.place(2), 4);
        due("about(2, 0)", x.about(2, 0), 7);
        due("worker(2, 0, 0)", x.worker(2, 0, 0), 0);
        // The other way round the box waits for a copy when its reader is sent away: LEFT, too.
        x.mishap(9, 2, 0);
        x.mishap(9, 0, 0);
        x.run(1);
        due("place(0)", x.place(0), 4);
        due("worker(2, 0, 0)", x.worker(2, 0, 0), 1);
        x.run(3);
        due("about(1, 0)", x.about(1, 0), 5);
        due("count(10)", x.count(10), 1);
    }

    private static void mishapsOfThoseThatAreNoMore() {
        promise = "11 people told fewer";
        FondsRoom x = room(1, 0, 4, 3, 1);
        boxes(x, 1);
        due("mishap(3, 1, 3)", x.mishap(3, 1, 3), true);
        due("mishap(3, 2, 2)", x.mishap(3, 2, 2), true);
        x.people(1, 1, 2);
        due("mishap(3, 1, 3)", x.mishap(3, 1, 3), false);
        due("mishap(3, 2, 2)", x.mishap(3, 2, 2), false);
        newReader(x, 1, 0);
        x.ask(0, 0);
        due("count(13)", x.count(13), 2);
        x.run(3);
        due("worker(1, 0, 1)", x.worker(1, 0, 1), 1);
        due("count(13)", x.count(13), 0);
    }

    /** A copy for one who is gone is MADE, though not for it; the next one's ticket waits. */
    private static void copyForNobody() {
        promise = "11 a copy for nobody";
        FondsRoom x = room(2, 0, 1, 1, 1);
        boxes(x, 1);
        newReader(x, 1, 0);
        newReader(x, 1, 0);
        x.ask(0, 0);
        x.copy(0, 0, 5, false);
        x.read(1, 3);
        x.ask(1, 0);
        x.mishap(5, 0, 0);
        x.run(5);
        due("place(0)", x.place(0), 6);
        due("whose(0)", x.whose(0), 1);
        due("about(0, 3)", x.about(0, 3), 0);
        due("held(0, 0)", x.held(0, 0), NONE);
        due("queue(1, 0)", x.queue(1, 0), 1);
        due("queue(2, -1)", x.queue(2, NONE), 0);
        x.run(3);
        due("count(10)", x.count(10), 1);
        due("about(0, 9)", x.about(0, 9), 0);
        due("about(1, 9)", x.about(1, 9), 0);
        due("place(0)", x.place(0), 4);
        due("whose(0)", x.whose(0), 1);
        x.run(2);
        due("about(1, 0)", x.about(1, 0), 5);
    }

    /** The one fetcher is on a long way, so that the box can be seen where it was LEFT. */
    private static void mishapOfACopyForNobody() {
        promise = "11 a mishap in a copy for nobody";
        FondsRoom x = room(2, 0, 1, 1, 5);
        boxes(x, 2);
        newReader(x, 1, 0);
        newReader(x, 6, 0);
        x.ask(0, 0);
        x.copy(0, 0, 30, true);
        x.ask(1, 1);
        x.mishap(8, 0, 0);
        x.mishap(9, 2, 0);
        x.run(8);
        due("place(0), for nobody", x.place(0), 6);
        due("worker(2, 0, 1)", x.worker(2, 0, 1), 29);
        due("worker(1, 0, 0)", x.worker(1, 0, 0), 1);
        x.run(1);
        due("place(0), behind the mishap", x.place(0), 2);
        due("whose(0)", x.whose(0), NONE);
        due("worker(2, 0, 0)", x.worker(2, 0, 0), NONE);
        due("worker(2, 0, 1)", x.worker(2, 0, 1), 0);
        due("queue(2, -1)", x.queue(2, NONE), 0);
        due("count(10)", x.count(10), 0);
        due("count(14), a mishap's too", x.count(14), 1);
        x.run(2);
        due("place(0), no fetcher is free", x.place(0), 2);
        x.run(1);
        due("place(0)", x.place(0), 4);
        x.run(5);
        due("place(0)", x.place(0), 0);
    }

    // ---- 12: run ----

    private static void run() {
        promise = "12 run";
        FondsRoom x = new FondsRoom();
        due("run(0)", x.run(0), 0);
        due("run(-1)", x.run(-1), NONE);
        due("run(201)", x.run(201), NONE);
        due("run(max)", x.run(Integer.MAX_VALUE), NONE);
        due("run(min)", x.run(Integer.MIN_VALUE), NONE);
        due("count(0)", x.count(0), 0);
        due("run(1)", x.run(1), 1);
        due("run(200)", x.run(200), 201);
        due("run(0)", x.run(0), 201);
        due("count(0)", x.count(0), 201);
    }

    /** a before b, c and d before f, f before g, h behind g, i and j behind f. */
    private static void orderOfATurn() {
        promise = "12 the order of a turn";
        FondsRoom x = room(1, 0, 1, 1, 1);
        boxes(x, 1);
        newReader(x, 1, 0);
        newReader(x, 2, 0);
        x.run(2);
        // Reader 0 leaves in f of turn 2; reader 1 comes in g and sits in h of the same one.
        due("about(1, 1)", x.about(1, 1), 0);
        due("about(1, 5)", x.about(1, 5), 0);
        dueEvents(x, row(1, 0, 1, 1), row(1, 0, 2, 0), row(2, 0, 8, 5), row(2, 1, 1, 1), row(2, 1, 2, 0));
        x.mishap(3, 0, 1);
        x.bell(3);
        x.run(1);
        due("about(1, 0), the mishap is ahead of the bell", x.about(1, 0), 7);
        due("count(4)", x.count(4), 6);
    }

    private static void fetchersComeBeforeCopyists() {
        promise = "12 c before d, the fetchers by numbers";
        FondsRoom x = room(3, 0, 2, 1, 1);
        boxes(x, 3);
        for (int i = 0; i < 3; i++) {
            newReader(x, 1, 0);
        }
        x.ask(0, 0);
        x.copy(0, 0, 1, false);
        x.read(1, 1);
        x.ask(1, 1);
        x.ask(2, 2);
        x.back(2, 2);
        x.run(4);
        dueEvents(x,
            row(1, 0, 1, 1), row(1, 1, 1, 1), row(1, 2, 1, 1), row(1, 0, 2, 0), row(1, 1, 2, 1), row(1, 2, 2, 2),
            row(2, 0, 3, 0), row(2, 2, 3, 2),
            row(3, 0, 5, 0), row(3, 2, 5, 2), row(3, 1, 3, 1), row(3, 2, 7, 2), row(3, 2, 8, 5),
            row(4, NONE, 9, 2), row(4, 1, 5, 1), row(4, 0, 6, 0), row(4, 0, 8, 5), row(4, 1, 8, 5));
    }

    private static void desksByRank() {
        promise = "12 desks by rank";
        FondsRoom x = room(2, 1, 1, 1, 1);
        x.reader(1, 0, false);
        x.reader(1, 2, false);
        x.reader(1, 2, true);
        x.reader(1, 3, false);
        x.reader(1, 0, true);
        for (int i = 0; i < 4; i++) {
            x.read(i, 4);
        }
        x.run(1);
        due("seated(0)", x.seated(0), 3);
        due("seated(1)", x.seated(1), 1);
        due("seated(2)", x.seated(2), 2);
        due("queue(0, -1)", x.queue(0, NONE), 2);
        due("queue(0, 0)", x.queue(0, 0), 0);
        due("queue(0, 1)", x.queue(0, 1), 4);
        due("about(0, 8)", x.about(0, 8), 3);
        due("about(1, 8)", x.about(1, 8), 1);
        due("about(2, 8)", x.about(2, 8), 1);
        due("about(3, 8)", x.about(3, 8), 0);
        due("about(4, 8)", x.about(4, 8), 0);
        // Of the same rank the earlier turn told goes ahead, though it is told later.
        x.run(1);
        x.reader(2, 0, false);
        x.reader(1, 0, false);
        x.run(1);
        due("queue(0, 0)", x.queue(0, 0), 0);
        due("queue(0, 1)", x.queue(0, 1), 4);
        due("queue(0, 2)", x.queue(0, 2), 6);
        due("queue(0, 3)", x.queue(0, 3), 5);
        due("queue(0, 4)", x.queue(0, 4), NONE);
        due("about(6, 5)", x.about(6, 5), 1);
        x.mishap(4, 0, 3);
        x.mishap(5, 0, 1);
        x.run(2);
        due("seated(0)", x.seated(0), 0);
        due("seated(1), one that needs a watched desk waits on", x.seated(1), 6);
        due("about(4, 0)", x.about(4, 0), 1);
        due("about(4, 8)", x.about(4, 8), 1);
        due("about(5, 8)", x.about(5, 8), 1);
        due("about(0, 8)", x.about(0, 8), 3);
        due("about(0, 5)", x.about(0, 5), 3);
        due("about(4, 5)", x.about(4, 5), 5);
        due("count(7)", x.count(7), 5);
    }

    /** Behind is who came in a later turn, whatever the numbers are. */
    private static void overtaken() {
        promise = "13 overtaken";
        FondsRoom x = room(1, 0, 1, 1, 1);
        newReader(x, 3, 3);
        newReader(x, 2, 0);
        newReader(x, 1, 0);
        newReader(x, 3, 1);
        x.read(2, 2);
        x.read(0, 1);
        x.run(4);
        due("seated(0)", x.seated(0), 0);
        due("about(1, 8), by reader 0", x.about(1, 8), 1);
        due("about(3, 8), reader 0 came ahead of it", x.about(3, 8), 0);
        x.run(4);
        due("about(1, 8), by reader 3, too", x.about(1, 8), 2);
        due("about(1, 5)", x.about(1, 5), 5);
        due("about(0, 8)", x.about(0, 8), 0);
        due("about(2, 8)", x.about(2, 8), 0);
    }

    private static void whichDesk() {
        promise = "12 which desk";
        FondsRoom x = new FondsRoom();
        x.desk(true);
        x.desk(false);
        x.desk(true);
        x.desk(false);
        x.people(1, 1, 1);
        x.reader(1, 3, false);
        x.reader(1, 2, true);
        x.reader(1, 1, false);
        x.reader(1, 0, false);
        x.run(1);
        due("seated(0)", x.seated(0), 1);
        due("seated(1)", x.seated(1), 0);
        due("seated(2), for lack of another", x.seated(2), 3);
        due("seated(3)", x.seated(3), 2);
        due("seated(4)", x.seated(4), NONE);
        due("seated(-1)", x.seated(-1), NONE);
        due("seated(max)", x.seated(Integer.MAX_VALUE), NONE);
        due("about(0, 1)", x.about(0, 1), 1);
        due("about(3, 1)", x.about(3, 1), 2);
    }

    private static void leftBoxesGoHomeFirst() {
        promise = "12 fetchers";
        FondsRoom x = room(4, 0, 1, 1, 1);
        boxes(x, 4);
        for (int i = 0; i < 3; i++) {
            newReader(x, 1, 0);
        }
        x.ask(0, 2);
        x.ask(0, 1);
        x.back(0, 2);
        x.back(0, 1);
        x.read(0, 9);
        x.ask(1, 3);
        x.ask(2, 0);
        x.run(2);
        due("worker(1, 0, 0)", x.worker(1, 0, 0), 2);
        due("queue(1, 0)", x.queue(1, 0), 1);
        due("queue(1, 1)", x.queue(1, 1), 2);
        x.run(1);
        due("worker(1, 0, 0), the first ticket", x.worker(1, 0, 0), 3);
        due("queue(1, 0)", x.queue(1, 0), 2);
        due("queue(1, 1)", x.queue(1, 1), 0);
        x.run(1);
        due("worker(1, 0, 0), a left box", x.worker(1, 0, 0), 3);
        due("place(3)", x.place(3), 4);
        x.run(1);
        due("worker(1, 0, 0), not by the boxes' numbers", x.worker(1, 0, 0), 0);
        x.run(2);
        due("worker(1, 0, 0)", x.worker(1, 0, 0), 1);
        due("place(1)", x.place(1), 3);
        x.run(1);
        due("worker(1, 0, 0), the least number", x.worker(1, 0, 0), 1);
        due("place(1)", x.place(1), 4);
        due("place(2)", x.place(2), 2);
        due("count(5)", x.count(5), 2);
    }

    // ---- 13 to 20: answers ----

    private static void aboutNobody() {
        promise = "13 to 20 wrong inputs";
        FondsRoom x = room(1, 0, 1, 1, 1);
        boxes(x, 1);
        newReader(x, 1, 0);
        int[] no = {-1, 1, 20, 40, Integer.MAX_VALUE, Integer.MIN_VALUE};
        for (int n : no) {
            due("about(" + n + ", 0)", x.about(n, 0), NONE);
            due("held(" + n + ", 0)", x.held(n, 0), NONE);
            due("refused(" + n + ", 0)", x.refused(n, 0), NONE);
            due("refused(0, " + n + ")", x.refused(0, n), NONE);
            due("held(0, " + n + ")", x.held(0, n), NONE);
            due("place(" + n + ")", x.place(n), NONE);
            due("whose(" + n + ")", x.whose(n), NONE);
            due("seated(" + n + ")", x.seated(n), NONE);
            due("worker(1, " + n + ", 1)", x.worker(1, n, 1), NONE);
            due("worker(2, " + n + ", 1)", x.worker(2, n, 1), NONE);
        }
        int[] noWhat = {-1, 11, 15, Integer.MAX_VALUE, Integer.MIN_VALUE};
        for (int what : noWhat) {
            due("about(0, " + what + ")", x.about(0, what), NONE);
            due("worker(1, 0, " + what + ")", x.worker(1, 0, what), NONE);
            due("worker(2, 0, " + what + ")", x.worker(2, 0, what), NONE);
            due("worker(" + what + ", 0, 1)", x.worker(what, 0, 1), NONE);
        }
        due("worker(0, 0, 0)", x.worker(0, 0, 0), NONE);
        due("worker(0, 0, 1)", x.worker(0, 0, 1), NONE);
        due("worker(1, 0, 2)", x.worker(1, 0, 2), NONE);
        due("worker(3, 0, 0)", x.worker(3, 0, 0), NONE);
        int[] noKind = {-1, 3, Integer.MAX_VALUE, Integer.MIN_VALUE};
        for (int kind : noKind) {
            due("queue(" + kind + ", 0)", x.queue(kind, 0), NONE);
            due("queue(" + kind + ", -1)", x.queue(kind, NONE), NONE);
        }
        for (int kind = 0; kind < 3; kind++) {
            due("queue(" + kind + ", -1)", x.queue(kind, NONE), 0);
            due("queue(" + kind + ", 0)", x.queue(kind, 0), NONE);
            due("queue(" + kind + ", -2)", x.queue(kind, -2), NONE);
            due("queue(" + kind + ", max)", x.queue(kind, Integer.MAX_VALUE), NONE);
        }
    }

    private static void aboutAReader() {
        promise = "13 about";
        FondsRoom x = room(1, 0, 1, 1, 1);
        boxes(x, 1);
        newReader(x, 3, 0);
        int[] before = {0, NONE, 0, 0, 0, 0, 0, 0, 0, 0, 0};
        for (int what = 0; what <= 10; what++) {
            due("about(0, " + what + ")", x.about(0, what), before[what]);
        }
        x.read(0, 9);
        x.run(2);
        due("about(0, 0)", x.about(0, 0), 0);
        x.run(2);
        int[] reading = {3, 0, 1, 0, 9, 0, 0, 0, 0, 0, 0};
        for (int what = 0; what <= 10; what++) {
            due("about(0, " + what + ")", x.about(0, what), reading[what]);
        }
        x.mishap(6, 0, 0);
        x.run(2);
        int[] gone = {7, NONE, 1, 0, 0, 0, 0, 0, 0, 0, 0};
        for (int what = 0; what <= 10; what++) {
            due("about(0, " + what + ")", x.about(0, what), gone[what]);
        }
    }

    // ---- 21: event ----

    private static void eventEdges() {
        promise = "21 event";
        FondsRoom x = room(1, 0, 1, 1, 1);
        newReader(x, 1, 0);
        x.run(1);
        dueEvents(x, row(1, 0, 1, 1), row(1, 0, 2, 0));
        int[] no = {-1, 2, 400, Integer.MAX_VALUE, Integer.MIN_VALUE};
        for (int i : no) {
            due("event(" + i + ", 0)", eventOf(x, i, 0), THROWS);
        }
        int[] noWhat = {-1, 4, Integer.MAX_VALUE, Integer.MIN_VALUE};
        for (int what : noWhat) {
            due("event(0, " + what + ")", eventOf(x, 0, what), THROWS);
        }
    }

    /** Twenty readers with sixteen refused asks each would make 20 * 35 events. */
    private static void theFirstFourHundredEvents() {
        promise = "21 the first 400";
        FondsRoom x = room(12, 0, 1, 1, 1);
        x.box(0, true);
        for (int r = 0; r < 20; r++) {
            newReader(x, 1, 0);
            for (int i = 0; i < 16; i++) {
                due("ask", x.ask(r, 0), true);
            }
        }
        x.run(2);
        due("count(4)", x.count(4), 400);
        dueEvent(x, 19, 1, 19, 1, 1);
        dueEvent(x, 31, 1, 11, 2, 11);
        dueEvent(x, 32, 2, 0, 3, 0);
        dueEvent(x, 33, 2, 0, 4, 2);
        dueEvent(x, 64, 2, 0, 8, 5);
        dueEvent(x, 399, 2, 11, 3, 0);
        due("event(400, 0)", eventOf(x, 400, 0), THROWS);
        x.run(10);
        due("count(4)", x.count(4), 400);
        due("event(400, 0)", eventOf(x, 400, 0), THROWS);
        due("about(19, 0)", x.about(19, 0), 5);
        due("about(19, 10)", x.about(19, 10), 16);
        due("refused(19, 15)", x.refused(19, 15), 2);
        due("refused(19, 16)", x.refused(19, 16), NONE);
    }

    // ---- 22: count ----

    private static void counts() {
        promise = "22 count";
        FondsRoom x = room(2, 1, 2, 1, 1);
        boxes(x, 4);
        newReader(x, 1, 0);
        newReader(x, 2, 0);
        x.ask(0, 0);
        x.copy(0, 0, 2, true);
        x.ask(1, 1);
        x.bell(30);
        x.mishap(40, 1, 0);
        x.mishap(41, 2, 0);
        int[] before = {0, 3, 4, 2, 0, 4, 0, 0, 0, 0, 0, 0, 30, 2, 0};
        for (int what = 0; what <= 14; what++) {
            due("count(" + what + ")", x.count(what), before[what]);
        }
        x.run(3);
        int[] between = {3, 3, 4, 2, 7, 2, 0, 0, 1, 1, 0, 2, 30, 2, 1};
        for (int what = 0; what <= 14; what++) {
            due("count(" + what + ") at turn 3", x.count(what), between[what]);
        }
        x.run(27);
        int[] behind = {30, 3, 4, 2, 13, 4, 1, 0, 1, 2, 1, 4, 30, 2, 1};
        for (int what = 0; what <= 14; what++) {
            due("count(" + what + ") at turn 30", x.count(what), behind[what]);
        }
        int[] no = {-1, 15, Integer.MAX_VALUE, Integer.MIN_VALUE};
        for (int what : no) {
            due("count(" + what + ")", x.count(what), NONE);
        }
    }

    public static void main(String[] args) {
        aNewObject();
        theFirstPeople();
        desk();
        box();
        people();
        reader();
        tellingOfSteps();
        tellingToReadersThatAreAway();
        askRules();
        theFirstRuleRefuses();
        eventsOfSteps();
        askForALeftBox();
        readTurns();
        copyOrder();
        onlyUrgentCopies();
        copyForAReader();
        copiedBoxIsAtTheDeskAgain();
        backBoxes();
        bellTelling();
        bellRings();
        mishapTelling();
        mishapsOfReaders();
        boxOnItsWayToNobody();
        mishapsOfFetchers();
        freeBehindAMishap();
        mishapsOfCopyists();
        mishapsOfThoseThatAreNoMore();
        copyForNobody();
        mishapOfACopyForNobody();
        run();
        orderOfATurn();
        fetchersComeBeforeCopyists();
        desksByRank();
        overtaken();
        whichDesk();
        leftBoxesGoHomeFirst();
        aboutNobody();
        aboutAReader();
        eventEdges();
        theFirstFourHundredEvents();
        counts();
        System.out.println((asked - wrong) + " passed, " + wrong + " failed");
        if (wrong != 0) {
            System.exit(1);
        }
    }
}
