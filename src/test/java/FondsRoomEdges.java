import java.util.ArrayList;
import java.util.List;
import java.util.NoSuchElementException;

/**
 * One test for each sentence of the document that names a boundary: too small, too large, empty,
 * full, a wrap-around, a refused call. A call is told as a line of words, "reader 1 0 false", so
 * that a room can be made a second time: without its refused calls it must answer the same.
 */
public final class FondsRoomEdges {
    private static final int NONE = FondsRoom.NONE;
    private static final int THROWS = Integer.MIN_VALUE;
    private static final int MAX = Integer.MAX_VALUE;
    private static final int MIN = Integer.MIN_VALUE;
    /** What an object answers behind its 512th call is free. */
    private static final int MOST_CALLS = 512;
    private static final int[] FAR = {MAX, MIN, 1 << 30, 1 << 16, 1 << 8, -(1 << 8)};

    private static String sentence = "";
    private static FondsRoom x;
    private static final List<String> calls = new ArrayList<>();
    private static final List<String> heeded = new ArrayList<>();
    private static int asked = 0;
    private static int wrong = 0;

    // ---- calls as lines of words ----

    private static int answer(FondsRoom room, String line) {
        String[] words = line.split(" ");
        int[] n = new int[4];
        for (int i = 1; i < words.length; i++) {
            n[i - 1] = words[i].equals("true") ? 1 : words[i].equals("false") ? 0 : Integer.parseInt(words[i]);
        }
        switch (words[0]) {
            case "desk": return room.desk(n[0] == 1);
            case "box": return room.box(n[0], n[1] == 1);
            case "people": return room.people(n[0], n[1], n[2]) ? 1 : 0;
            case "reader": return room.reader(n[0], n[1], n[2] == 1);
            case "ask": return room.ask(n[0], n[1]) ? 1 : 0;
            case "read": return room.read(n[0], n[1]) ? 1 : 0;
            case "copy": return room.copy(n[0], n[1], n[2], n[3] == 1) ? 1 : 0;
            case "back": return room.back(n[0], n[1]) ? 1 : 0;
            case "bell": return room.bell(n[0]) ? 1 : 0;
            case "mishap": return room.mishap(n[0], n[1], n[2]) ? 1 : 0;
            case "run": return room.run(n[0]);
            case "about": return room.about(n[0], n[1]);
            case "held": return room.held(n[0], n[1]);
            case "refused": return room.refused(n[0], n[1]);
            case "place": return room.place(n[0]);
            case "whose": return room.whose(n[0]);
            case "seated": return room.seated(n[0]);
            case "worker": return room.worker(n[0], n[1], n[2]);
            case "queue": return room.queue(n[0], n[1]);
            case "event": return eventOf(room, n[0], n[1]);
            case "count": return room.count(n[0]);
            default: throw new AssertionError("no such call: " + line);
        }
    }

    private static int eventOf(FondsRoom room, int i, int what) {
        try {
            return room.event(i, what);
        } catch (NoSuchElementException e) {
            return THROWS;
        }
    }

    private static boolean answersBoolean(String line) {
        String name = line.substring(0, line.indexOf(' '));
        return List.of("people", "ask", "read", "copy", "back", "bell", "mishap").contains(name);
    }

    private static void fault(String words) {
        wrong++;
        System.out.println("\"" + sentence + "\": " + words);
    }

    private static int call(String line) {
        calls.add(line);
        if (calls.size() > MOST_CALLS) {
            fault("the test makes more than " + MOST_CALLS + " calls on one object");
        }
        return answer(x, line);
    }

    // ---- what a test says ----

    /** A new room, for a sentence of the document. */
    private static void says(String words) {
        sentence = words;
        again();
    }

    /** A new room for the same sentence. */
    private static void again() {
        x = new FondsRoom();
        calls.clear();
        heeded.clear();
    }

    private static void due(String line, int want) {
        asked++;
        int got = call(line);
        if (got != want) {
            fault(line + " answered " + got + ", due is " + want + " behind " + heeded);
        }
    }

    /** The same call for numbers one behind the other. */
    private static void due(String name, int from, int... want) {
        for (int i = 0; i < want.length; i++) {
            due(name + " " + (from + i), want[i]);
        }
    }

    /** Each of the last words, with the answer that is due for it. */
    private static void due(String name, String lastWords, int... want) {
        String[] words = lastWords.split(" ");
        for (int i = 0; i < want.length; i++) {
            due(name + " " + words[i], want[i]);
        }
    }

    /** Calls that are not refused. */
    private static void tell(String... lines) {
        for (String line : lines) {
            asked++;
            int got = call(line);
            heeded.add(line);
            if (got == NONE || (answersBoolean(line) && got == 0)) {
                fault(line + " is refused behind " + heeded);
            }
        }
    }

    /** So many calls of the same words, with a number from 0 on where # stands. */
    private static void tellTimes(int times, String line) {
        for (int i = 0; i < times; i++) {
            tell(line.replace("#", String.valueOf(i)));
        }
    }

    /** A call that makes the next one of its kind, with this number. */
    private static void makes(String line, int number) {
        due(line, number);
        heeded.add(line);
    }

    /** Calls that answer NONE or false, and that nothing else is different for. */
    private static void refuses(String... lines) {
        for (String line : lines) {
            due(line, answersBoolean(line) ? 0 : NONE);
        }
        asked++;
        for (int later : new int[] {0, 1, 7, 60}) {
            String other = firstOther(lines, later);
            if (other != null) {
                fault("a refused one of " + List.of(lines) + " changed " + other + " after " + later + " turns");
                return;
            }
        }
    }

    private static void refusesEach(int[] numbers, String line) {
        String[] lines = new String[numbers.length];
        for (int i = 0; i < numbers.length; i++) {
            lines[i] = line.replace("#", String.valueOf(numbers[i]));
        }
        refuses(lines);
    }

    private static int[] join(int[] some, int... more) {
        int[] all = new int[some.length + more.length];
        System.arraycopy(more, 0, all, 0, more.length);
        System.arraycopy(some, 0, all, more.length, some.length);
        return all;
    }

    /** Event i is (turn, reader, what, number). */
    private static void dueEvent(int i, int... want) {
        for (int what = 0; what < 4; what++) {
            due("event " + i + " " + what, want[what]);
        }
    }

    // ---- the same room with refused calls and without ----

    private static FondsRoom replay(String[] refusedOnes, int later) {
        FondsRoom room = new FondsRoom();
        for (String line : heeded) {
            answer(room, line);
        }
        for (String line : refusedOnes) {
            answer(room, line);
        }
        room.run(later);
        return room;
    }

    private static String firstOther(String[] refusedOnes, int later) {
        FondsRoom with = null;
        FondsRoom without = null;
        int left = 0;
        for (String question : questions(replay(new String[0], later))) {
            if (left == 0) {
                with = replay(refusedOnes, later);
                without = replay(new String[0], later);
                left = MOST_CALLS - heeded.size() - refusedOnes.length - 1;
            }
            left--;
            if (answer(with, question) != answer(without, question)) {
                return question;
            }
        }
        return null;
    }

    /** One number more than there is of each, so that something added is seen. */
    private static List<String> questions(FondsRoom room) {
        List<String> all = new ArrayList<>();
        int boxes = room.count(2);
        int readers = room.count(3);
        int events = room.count(4);
        addEach(all, "count #", 16);
        addEach(all, "seated #", room.count(1) + 1);
        addEach(all, "place #", boxes + 1);
        addEach(all, "whose #", boxes + 1);
        for (int r = 0; r <= readers; r++) {
            addEach(all, "about " + r + " #", 11);
            addEach(all, "held " + r + " #", 4);
            addEach(all, "refused " + r + " #", 17);
        }
        for (int kind = 0; kind <= 2; kind++) {
            all.add("queue " + kind + " -1");
            addEach(all, "queue " + kind + " #", readers);
            addEach(all, "worker " + kind + " # 0", 5);
            addEach(all, "worker " + kind + " # 1", 5);
        }
        for (int i = 0; i <= events; i++) {
            addEach(all, "event " + i + " #", 4);
        }
        return all;
    }

    private static void addEach(List<String> all, String line, int many) {
        for (int i = 0; i < many; i++) {
            all.add(line.replace("#", String.valueOf(i)));
        }
    }

    // ---- rooms that many tests begin with ----

    /** Plain desks, boxes each of a fonds of its own, and people. */
    private static void furnish(int desks, int boxes, int fetchers, int copyists, int way) {
        tellTimes(desks, "desk false");
        tellTimes(boxes, "box # false");
        tell("people " + fetchers + " " + copyists + " " + way);
    }

    /** Readers of rank 0 who come at turn 1. */
    private static void readers(int many) {
        tellTimes(many, "reader 1 0 false");
    }

    // ---- the limits of desks, boxes and people: promises 1 to 4 ----

    private static void nothingAtFirst() {
        says("No DESKS, BOXES, READERS; turn 0; no BELL.");
        due("count", 0, 0, 0, 0, 0, 0, 0, 1, 0, 0, 0, 0, 0, NONE, 0, 0, NONE);
        refuses("seated 0", "place 0", "whose 0", "about 0 0", "held 0 0", "refused 0 0", "ask 0 0", "read 0 1",
            "copy 0 0 1 false", "back 0 0", "mishap 1 0 0");
        due("event 0 0", THROWS);
        tell("run 200");
        due("count", 0, 200, 0, 0, 0, 0, 0, 1, 0, 0, 0, 0, 0, NONE, 0, 0, NONE);
    }

    private static void desksAtMostTwelve() {
        says("DESKS (at most 12) are numbered from 0 on. NONE: there are 12");
        for (int i = 0; i < 12; i++) {
            makes("desk " + (i % 2 == 1), i);
            due("count 1", i + 1);
        }
        refuses("desk false", "desk true");
        due("count 1", 12);
        tellTimes(6, "reader 1 3 false");
        tellTimes(6, "reader 1 2 true");
        tell("reader 1 1 false", "run 1");
        due("seated", 0, 0, 6, 1, 7, 2, 8, 3, 9, 4, 10, 5, 11, NONE);
        due("about 11 1", 11);
        due("about 12 0", 1);
    }

    private static void desksBeforeTheFirstTurn() {
        says("NONE: .. or a turn has been. (desk)");
        tell("run 0");
        refuses("run -1", "run 201");
        makes("desk false", 0);
        tell("run 1");
        refuses("desk false", "desk true");
        tell("run 200");
        refuses("desk true");
    }

    private static void boxesAtMostForty() {
        says("BOXES (at most 40). NONE: there are 40");
        tell("desk false", "people 4 3 1");
        for (int i = 0; i < 40; i++) {
            makes("box " + i % 10 + " false", i);
            due("count 2", i + 1);
        }
        readers(1);
        refuses("box 0 false", "box 9 true", "ask 0 40", "copy 0 40 1 true", "back 0 40", "place 40", "whose 40");
        tell("ask 0 39", "ask 0 0", "read 0 9", "run 4");
        due("count 5", 38);
        due("held 0 0", 0);
        due("held 0 1", 39);
        due("whose 39", 0);
    }

    private static void fondsFromZeroToNine() {
        says("of a FONDS (0 to 9). NONE: .. no such FONDS");
        refusesEach(join(FAR, -1, 10), "box # false");
        refusesEach(join(FAR, -1, 10), "box # true");
        makes("box 0 false", 0);
        makes("box 9 true", 1);
        refuses("box 10 false", "box -1 false");
        due("count 2", 2);
    }

    private static void boxesBeforeTheFirstTurn() {
        says("NONE: .. or a turn has been. (box)");
        tell("run 0");
        makes("box 3 false", 0);
        tell("run 1");
        refuses("box 3 false", "box 0 true");
    }

    private static void peopleWithinTheirLimits() {
        says("FETCHERS are 1 to 4, COPYISTS 1 to 3, a WAY is 1 to 5 turns. False: others than told");
        furnish(1, 1, 3, 2, 4);
        readers(1);
        tell("ask 0 0");
        refusesEach(join(FAR, 0, -1, 5), "people # 1 1");
        refusesEach(join(FAR, 0, -1, 4), "people 1 # 1");
        refusesEach(join(FAR, 0, -1, 6), "people 1 1 #");
        refuses("people 0 0 0", "people 5 4 6");
        due("worker 1 2 1", 0);
        due("worker 1 3 1", NONE);
        due("worker 2 1 1", 0);
        due("worker 2 2 1", NONE);
        tell("run 2");
        due("worker 1 0 1", 4);
    }

    private static void theFewestPeople() {
        says("FETCHERS are 1, COPYISTS 1, a WAY is 1");
        furnish(2, 2, 1, 1, 1);
        readers(2);
        tell("ask 0 0", "copy 0 0 1 false", "ask 1 1", "copy 1 1 1 false", "run 2");
        due("worker 1 0 0", 0);
        due("worker 1 0 1", 1);
        due("worker 1 1 0", NONE);
        due("place 1", 0);
        tell("run 1");
        due("place 0", 6);
        due("worker 2 0 1", 1);
        due("worker 1 0 0", 1);
        tell("run 1");
        due("place", 0, 4, 6);
    }

    private static void theMostPeople() {
        says("FETCHERS are 4, COPYISTS 3, a WAY is 5");
        furnish(5, 5, 4, 3, 5);
        readers(5);
        for (int r = 0; r < 5; r++) {
            tell("ask " + r + " " + r, "copy " + r + " " + r + " 9 false");
        }
        tell("run 2");
        due("place", 0, 3, 3, 3, 3, 0);
        for (int f = 0; f < 4; f++) {
            due("worker 1 " + f + " 0", f);
            due("worker 1 " + f + " 1", 5);
        }
        due("worker 1 4 0", NONE);
        due("worker 1 4 1", NONE);
        tell("run 4");
        due("worker 1 3 1", 1);
        tell("run 1");
        due("place", 0, 6, 6, 6, 5, 3);
        due("worker 2 2 0", 2);
        due("worker 2 3 0", NONE);
        due("worker 2 3 1", NONE);
    }

    private static void peopleAtFirst() {
        says("FETCHERS (2 at first), COPYISTS (1 at first), a WAY (2 at first)");
        tellTimes(3, "desk false");
        tellTimes(3, "box # false");
        readers(3);
        for (int r = 0; r < 3; r++) {
            tell("ask " + r + " " + r, "copy " + r + " " + r + " 9 false");
        }
        due("worker 1 1 1", 0);
        due("worker 1 2 1", NONE);
        due("worker 2 0 1", 0);
        due("worker 2 1 1", NONE);
        tell("run 2");
        due("place", 0, 3, 3, 0);
        due("worker 1 1 1", 2);
        tell("run 2");
        due("place", 0, 6, 5, 3);
    }

    private static void peopleBeforeTheFirstTurn() {
        says("False: .. or a turn has been. (people)");
        tell("desk false", "box 0 false", "people 4 3 5", "people 1 2 3", "run 0", "people 2 1 4", "run 1");
        readers(1);
        tell("ask 0 0");
        refuses("people 1 1 1", "people 4 3 5", "people 2 1 4");
        tell("run 2");
        due("worker 1 0 1", 4);
        due("worker 1 1 1", 0);
        due("worker 1 2 1", NONE);
    }

    // ---- the limits of readers and plans: promises 5 to 9 ----

    private static void readersAtMostTwenty() {
        says("READERS (at most 20). NONE: there are 20");
        furnish(1, 1, 1, 1, 1);
        for (int i = 0; i < 20; i++) {
            makes("reader 1 " + i % 4 + " false", i);
            due("count 3", i + 1);
        }
        refuses("reader 1 0 false", "reader 1000 3 true", "about 20 0", "ask 20 0", "read 20 1",
            "copy 20 0 1 false", "back 20 0", "mishap 9 0 20", "held 20 0", "refused 20 0");
        due("count 3", 20);
        tell("run 1");
        due("queue 0 -1", 19);
        due("queue 0 18", 16);
        due("queue 0 19", NONE);
        tell("run 20");
        due("count 6", 1);
        refuses("reader 1 0 false");
    }

    private static void arrivalsFromOneToAThousand() {
        says("who comes at a turn (1 to 1000). NONE: .. other numbers");
        tell("desk false");
        refusesEach(new int[] {0, -1, 1001, 1 << 16, 1 << 30, MAX, MIN}, "reader # 0 false");
        makes("reader 1 0 false", 0);
        makes("reader 1000 0 false", 1);
        tell("run 1");
        due("about 0 0", 8);
        tell("run 200", "run 200", "run 200", "run 200", "run 198");
        due("count 0", 999);
        due("about 1 0", 0);
        tell("run 1");
        due("about 1 0", 8);
        makes("reader 1000 0 false", 2);
        refuses("reader 1001 0 false");
        tell("run 1");
        due("about 2 0", 8);
    }

    private static void ranksFromZeroToThree() {
        says("a RANK (0 to 3). NONE: .. other numbers");
        refusesEach(join(FAR, -1, 4), "reader 1 # false");
        refusesEach(join(FAR, -1, 4), "reader 1 # true");
        tell("reader 1 0 false", "reader 1 1 false", "reader 1 2 false", "reader 1 3 false", "run 1");
        for (int i = 0; i < 4; i++) {
            due("queue 0 " + i, 3 - i);
        }
    }

    private static void noReadersBehindTheBell() {
        says("NONE: .. or the BELL has been. (reader)");
        tell("bell 5", "run 4");
        makes("reader 5 0 false", 0);
        tell("run 1");
        refuses("reader 5 0 false", "reader 6 0 false", "reader 1000 3 true");
        tell("run 1");
        refuses("reader 7 0 false");
        due("about 0 0", 6);
    }

    private static void plansAtMostSixteen() {
        says("a PLAN of steps (at most 16). False: .. 16 steps");
        furnish(2, 1, 1, 1, 1);
        readers(2);
        tellTimes(15, "back 0 0");
        tell("read 0 2");
        refuses("ask 0 0", "read 0 1", "copy 0 0 1 true", "back 0 0");
        tell("read 1 1");
        tell("run 2");
        due("about 0 2", 16);
        due("about 0 10", 15);
        due("about 0 0", 3);
        refuses("ask 0 0", "read 0 1", "copy 0 0 1 true", "back 0 0");
        tell("run 2");
        due("about 0 0", 5);
        due("about 0 2", 16);
    }

    private static void sixteenStepsOfEachKind() {
        says("16 steps: the last one of each kind is done");
        for (String last : new String[] {"ask 0 0", "read 0 1", "copy 0 0 1 false", "back 0 0"}) {
            again();
            furnish(1, 1, 1, 1, 1);
            readers(1);
            tellTimes(15, "back 0 0");
            tell(last);
            refuses(last);
            tell("run 2");
            due("about 0 2", 16);
            due("about 0 10", last.startsWith("ask") || last.startsWith("read") ? 15 : 16);
        }
    }

    private static void stepsOfNoSuchReader() {
        says("False: no such READER (ask, read, copy, back)");
        furnish(1, 2, 1, 1, 1);
        readers(2);
        for (String line : new String[] {"ask # 0", "read # 1", "copy # 0 1 false", "back # 0"}) {
            refusesEach(join(FAR, -1, 2, 19, 20), line);
        }
        tell("ask 1 0");
    }

    private static void stepsOfReadersThatAreAway() {
        says("False: no such READER (or in state 5, 6, 7)");
        furnish(2, 1, 1, 1, 1);
        readers(2);
        tell("read 1 30", "reader 50 0 false", "mishap 4 0 1", "bell 5", "run 5");
        int[] states = {5, 7, 6};
        for (int r = 0; r < 3; r++) {
            due("about " + r + " 0", states[r]);
            refuses("ask " + r + " 0", "read " + r + " 1", "copy " + r + " 0 1 true", "back " + r + " 0");
        }
    }

    private static void stepsInEveryOtherState() {
        says("A step more of a READER's PLAN (in states 0, 1, 2, 3, 4, 8)");
        inEveryState();
        for (int r = 0; r < 6; r++) {
            tell("ask " + r + " 0", "read " + r + " 1", "copy " + r + " 0 1 true", "back " + r + " 0");
        }
        tell("run 200");
        for (int r = 0; r < 6; r++) {
            due("about " + r + " 0", 5);
            due("about " + r + " 2", new int[] {6, 5, 6, 4, 4, 4}[r]);
        }
    }

    /** Turn 3: readers 0 to 5 are in states 2, 3, 4, 8, 1 and 0; box 1 is on its way, box 2 copied. */
    private static void inEveryState() {
        furnish(4, 3, 2, 1, 1);
        readers(3);
        tell("reader 3 3 false", "reader 3 0 false", "reader 50 0 false");
        tell("read 0 1", "ask 0 1", "read 1 40", "ask 2 2", "copy 2 2 30 false", "run 3");
        int[] states = {2, 3, 4, 8, 1, 0};
        for (int r = 0; r < 6; r++) {
            due("about " + r + " 0", states[r]);
        }
        due("place", 0, 0, 3, 6);
    }

    private static void stepsOfNoSuchBox() {
        says("False: .. no such BOX (ask, copy, back)");
        furnish(1, 2, 1, 1, 1);
        readers(1);
        for (String line : new String[] {"ask 0 #", "copy 0 # 1 false", "back 0 #"}) {
            refusesEach(join(FAR, -1, 2, 39, 40), line);
        }
        tell("ask 0 1", "copy 0 1 1 false", "back 0 1");
        again();
        readers(1);
        refuses("ask 0 0", "copy 0 0 1 false", "back 0 0");
    }

    private static void readFromOneToFifty() {
        says("READ so many turns (1 to 50). False likewise.");
        tellTimes(2, "desk false");
        readers(2);
        refusesEach(join(FAR, 0, -1, 51), "read 0 #");
        tell("read 0 50", "read 1 1", "run 2");
        due("about 0 4", 50);
        due("about 1 4", 1);
        tell("run 1");
        due("about 0 4", 49);
        due("about 1 0", 5);
        due("about 1 4", 0);
        tell("run 48");
        due("about 0 4", 1);
        due("about 0 0", 3);
        tell("run 1");
        due("about 0 0", 5);
        due("about 0 4", 0);
    }

    private static void copyFromOneToThirty() {
        says("COPY of so many pages (1 to 30). False likewise.");
        furnish(2, 2, 2, 2, 1);
        readers(2);
        refusesEach(join(FAR, 0, -1, 31), "copy 0 0 # false");
        refusesEach(join(FAR, 0, -1, 31), "copy 0 0 # true");
        tell("ask 0 0", "copy 0 0 30 false", "ask 1 1", "copy 1 1 1 false", "run 3");
        due("worker 2 0 1", 30);
        due("worker 2 1 1", 1);
        tell("run 1");
        due("worker 2 0 1", 29);
        due("about 1 9", 1);
        due("worker 2 1 0", NONE);
        due("worker 2 1 1", 0);
        tell("run 28");
        due("worker 2 0 1", 1);
        due("about 0 9", 0);
        tell("run 1");
        due("about 0 9", 1);
        due("about 0 7", 30);
    }

    // ---- the rules, and what a step does: promises 6 to 9 ----

    private static void threeBoxesAtMost() {
        says("1 it HAS three BOXES");
        furnish(1, 4, 1, 1, 1);
        readers(1);
        tell("ask 0 0", "ask 0 1", "ask 0 2", "ask 0 3", "ask 0 0", "back 0 1", "ask 0 3", "read 0 9", "run 4");
        due("about 0 3", 2);
        due("about 0 10", 0);
        tell("run 1");
        due("about 0 10", 2);
        due("refused 0 0", 1);
        due("refused 0 1", 1);
        due("about 0 0", 2);
        due("whose 3", 0);
        tell("run 3");
        due("about 0 3", 3);
        due("held 0 2", 3);
    }

    private static void preciousBoxes() {
        says("2 the BOX is PRECIOUS, and its desk is not WATCHED");
        tell("desk false", "desk true", "box 0 true", "box 1 true", "box 2 false", "people 4 1 1");
        readers(2);
        tell("ask 0 0", "ask 0 2", "read 0 9", "ask 1 1", "read 1 9", "run 3");
        due("about 0 1", 0);
        due("refused 0 0", 2);
        due("about 0 10", 1);
        due("held 0 0", 2);
        due("about 1 1", 1);
        due("about 1 10", 0);
        due("held 1 0", 1);
    }

    private static void aBoxThatItHas() {
        says("3 it HAS this BOX");
        tell("desk false", "desk true", "box 0 false", "box 0 false", "people 1 1 1", "reader 1 0 true");
        tell("ask 0 0", "ask 0 0", "ask 0 1", "ask 0 1", "back 0 0", "ask 0 0", "run 4");
        due("about 0 10", 2);
        due("refused 0 0", 3);
        due("refused 0 1", 3);
        due("about 0 0", 2);
        due("whose 0", 0);
    }

    /** Box 0 is at this place when reader 1 asks for box 1 of the same fonds, then for one of another. */
    private static void fondsAsked(int place, boolean isReaders, int turn, String... plan) {
        again();
        tellTimes(3, "desk false");
        tell("box 5 false", "box 5 false", "box 6 false", "box 7 false", "people 1 1 3");
        readers(3);
        tell("read 1 " + (turn - 2), "ask 1 1", "ask 1 2");
        tell(plan);
        tell("run " + (turn - 1));
        due("place 0", place);
        due("whose 0", isReaders ? 0 : NONE);
        tell("run 1");
        due("about 1 0", 2);
        due("about 1 10", isReaders ? 1 : 0);
        due("refused 1 0", isReaders ? 4 : NONE);
        due("whose 1", isReaders ? NONE : 1);
        due("whose 2", isReaders ? 1 : NONE);
    }

    private static void fondsOfAnother() {
        says("4 another READER HAS, or has a TICKET for, a BOX of that FONDS (at each PLACE)");
        fondsAsked(0, true, 4, "ask 2 3", "read 0 1", "ask 0 0");
        fondsAsked(1, true, 7, "ask 0 0", "read 0 30");
        fondsAsked(2, true, 7, "ask 0 0", "read 0 1", "back 0 0", "ask 0 0", "ask 2 3");
        fondsAsked(3, true, 4, "ask 0 0");
        fondsAsked(4, true, 7, "ask 0 0", "back 0 0", "ask 0 0");
        fondsAsked(5, true, 7, "people 2 1 3", "ask 0 0", "copy 0 0 30 false", "ask 2 3", "copy 2 3 30 true");
        fondsAsked(6, true, 7, "ask 0 0", "copy 0 0 30 false");
    }

    private static void fondsOfNobody() {
        says("4 another READER HAS, or has a TICKET (else it has a TICKET)");
        fondsAsked(0, false, 4);
        fondsAsked(2, false, 7, "ask 0 0", "read 0 1", "back 0 0", "read 0 30", "ask 2 3");
        fondsAsked(3, false, 4, "ask 0 0", "mishap 3 0 0");
        fondsAsked(4, false, 7, "ask 0 0", "back 0 0", "read 0 30");
        fondsAsked(6, false, 7, "ask 0 0", "copy 0 0 30 false", "mishap 6 0 0");
    }

    private static void fondsOfItsOwn() {
        says("4 another READER (not itself)");
        tell("desk false", "people 1 1 1");
        tellTimes(3, "box 9 false");
        readers(1);
        tell("ask 0 2", "ask 0 0", "ask 0 1", "read 0 9", "run 5");
        due("about 0 3", 3);
        due("about 0 10", 0);
    }

    private static void theFirstRuleThatHolds() {
        says("The first RULE that holds refuses it");
        tell("desk false", "desk true", "people 4 1 1");
        tell("box 0 false", "box 1 false", "box 2 false", "box 3 true", "box 4 false", "box 4 false");
        readers(1);
        tell("reader 1 0 true", "ask 1 3", "ask 1 4", "read 1 50");
        tell("read 0 2", "ask 0 3", "ask 0 0", "ask 0 0", "ask 0 1", "ask 0 2");
        tell("ask 0 3", "ask 0 0", "ask 0 5", "back 0 0", "ask 0 5", "ask 0 3", "run 9");
        int[] rules = {2, 3, 1, 1, 1, 4, 2};
        due("about 0 10", rules.length);
        for (int i = 0; i < rules.length; i++) {
            due("refused 0 " + i, rules[i]);
        }
        due("refused 0 " + rules.length, NONE);
    }

    private static void copyOfABoxThatItHasNot() {
        says("COPY a BOX: RULE 5: it doesn't HAVE it");
        hasNot("copy 0 # 1 false");
    }

    private static void backOfABoxThatItHasNot() {
        says("BACK a BOX: RULE 5 likewise");
        hasNot("back 0 #");
    }

    /** A box that nobody asked for, one of another reader's, one that was refused, one given back. */
    private static void hasNot(String step) {
        furnish(2, 3, 2, 1, 1);
        readers(2);
        tell("ask 1 1", "read 1 50", "read 0 2");
        tell(step.replace("#", "0"), step.replace("#", "1"), "ask 0 1", step.replace("#", "1"));
        tell("ask 0 2", "back 0 2", step.replace("#", "2"), "read 0 9", "run 6");
        int[] rules = {5, 5, 4, 5, 5};
        due("about 0 10", rules.length);
        for (int i = 0; i < rules.length; i++) {
            due("refused 0 " + i, rules[i]);
        }
        due("about 0 0", 3);
        due("place", 0, 0, 1, 0);
        due("whose 1", 1);
        due("count 10", 0);
        due("queue 2 -1", 0);
        due("about 0 9", 0);
    }

    private static void anEmptyPlan() {
        says("Behind the last step it LEAVES (a PLAN without steps)");
        tell("desk false");
        readers(2);
        tell("run 1");
        due("about 0 0", 8);
        due("about 0 1", 0);
        tell("run 1");
        due("about 0 0", 5);
        due("about 0 1", NONE);
        due("about 0 2", 0);
        due("seated 0", 1);
        due("count 4", 5);
        dueEvent(3, 2, 0, 8, 5);
    }

    private static void refusedStepsAreDoneAtOnce() {
        says("its steps are done one behind the other (refused ones, too) till it is in another state");
        furnish(1, 1, 1, 1, 1);
        readers(1);
        tellTimes(8, "back 0 0");
        tellTimes(7, "copy 0 0 9 true");
        tell("read 0 1", "run 1");
        due("about 0 2", 0);
        tell("run 1");
        due("about 0 2", 16);
        due("about 0 10", 15);
        due("refused 0 14", 5);
        due("refused 0 15", NONE);
        due("about 0 0", 3);
        again();
        furnish(1, 1, 1, 1, 1);
        readers(1);
        tellTimes(16, "back 0 0");
        tell("run 2");
        due("about 0 0", 5);
        due("about 0 2", 16);
        due("refused 0 15", 5);
        due("refused 0 16", NONE);
    }

    private static void givenBackAndOn() {
        says("Else it is LEFT; the READER goes on");
        furnish(1, 3, 1, 1, 1);
        readers(1);
        tell("ask 0 2", "ask 0 0", "ask 0 1", "read 0 1", "back 0 1", "back 0 2", "back 0 0", "read 0 9", "run 6");
        due("place", 0, 4, 2, 2);
        due("about 0 3", 0);
        due("about 0 0", 3);
        due("about 0 2", 8);
        int first = x.count(4) - 3;
        dueEvent(first, 6, 0, 7, 1);
        dueEvent(first + 1, 6, 0, 7, 2);
        dueEvent(first + 2, 6, 0, 7, 0);
    }

    private static void leavesWithThreeBoxes() {
        says("it LEAVES: all that it HAS is LEFT, its desk is free, state 5");
        furnish(1, 3, 1, 1, 1);
        readers(2);
        tell("ask 0 2", "ask 0 0", "ask 0 1", "read 1 9", "run 5");
        due("about 0 0", 5);
        due("about 0 3", 0);
        due("held 0 0", NONE);
        due("place", 0, 4, 2, 2);
        due("whose", 0, NONE, NONE, NONE);
        due("seated 0", 1);
        int last = x.count(4) - 1;
        dueEvent(last - 1, 5, 0, 8, 5);
        dueEvent(last, 5, 1, 2, 0);
    }

    // ---- to be sent away: by a mishap, and by the bell ----

    /** Reader 0 is sent away in a turn, once by a mishap and once by the bell; box 0 is its own till then. */
    private static void sentAway(int turn, int state, int place, int behindMishap, int behindBell, String... plan) {
        for (int kind = 6; kind <= 7; kind++) {
            again();
            furnish(2, 3, 1, 1, 3);
            readers(2);
            tell(plan);
            tell(kind == 7 ? "mishap " + turn + " 0 0" : "bell " + turn, "run " + (turn - 1));
            due("about 0 0", state);
            due("place 0", place);
            due("whose 0", 0);
            due("seated 0", 0);
            tell("run 1");
            due("about 0 0", kind);
            due("about 0 1", NONE);
            due("about 0 3", 0);
            due("about 0 4", 0);
            due("held 0 0", NONE);
            due("whose 0", NONE);
            due("seated 0", NONE);
            due("queue 1 -1", 0);
            due("queue 2 -1", 0);
            due("place 0", kind == 7 ? behindMishap : behindBell);
            tell("run 50");
            due("about 0 9", 0);
            due("count 5", 3);
            due("count 6", 1);
        }
    }

    private static void sentAwayWithATicket() {
        says("its TICKETS go (a FETCHER that is on its way to it goes on)");
        sentAway(3, 2, 3, 3, 0, "ask 0 0");
        sentAway(4, 2, 3, 3, 0, "ask 0 0");
        sentAway(5, 2, 3, 4, 0, "ask 0 0");
        says("its TICKETS go (at PLACES 0, 2, 4)");
        sentAway(4, 2, 0, 0, 0, "read 0 1", "ask 1 1", "read 1 1", "ask 0 0");
        sentAway(7, 2, 2, 2, 4, "ask 0 0", "read 0 1", "back 0 0", "ask 0 0", "ask 1 1");
        sentAway(7, 2, 4, 4, 4, "ask 0 0", "back 0 0", "ask 0 0");
    }

    private static void sentAwayWithACopy() {
        says("a BOX that waits for a copy, too, is LEFT");
        sentAway(9, 4, 5, 4, 4, "read 0 1", "ask 1 1", "copy 1 1 30 true", "ask 0 0", "copy 0 0 9 true");
        says("one that is copied goes on");
        sentAway(6, 4, 6, 6, 6, "ask 0 0", "copy 0 0 9 false");
        due("count 10", 1);
    }

    private static void sentAwayWithBoxes() {
        says("all that it HAS but what is copied is LEFT");
        sentAway(7, 3, 1, 4, 4, "ask 0 0", "read 0 30");
        again();
        furnish(2, 3, 1, 1, 3);
        readers(1);
        tell("ask 0 2", "ask 0 0", "ask 0 1", "copy 0 1 9 false", "mishap 12 0 0", "run 11");
        due("place", 0, 1, 6, 1);
        due("about 0 3", 3);
        tell("run 1");
        due("place", 0, 4, 6, 2);
        due("about 0 3", 0);
        due("whose", 0, NONE, NONE, NONE);
        tell("run 8");
        due("place", 0, 0, 4, 0);
        due("count 10", 1);
        due("about 0 9", 0);
    }

    // ---- the bell: promise 10 ----

    private static void bellForALaterTurn() {
        says("False: it isn't a later one than the present");
        tell("reader 30 0 false");
        refusesEach(new int[] {0, -1, MIN}, "bell #");
        tell("run 7");
        refusesEach(new int[] {7, 6, 1, 0, -1, MIN}, "bell #");
        due("count 12", NONE);
        tell("bell 8");
        due("count 12", 8);
        due("about 0 0", 0);
        tell("run 1");
        due("about 0 0", 6);
    }

    private static void oneBellAtMost() {
        says("False: .. or there is one already");
        tell("reader 30 0 false", "bell 9");
        refuses("bell 9", "bell 1", "bell 10", "bell 8");
        tell("run 8");
        due("about 0 0", 0);
        tell("run 1");
        due("about 0 0", 6);
        refuses("bell 10", "bell 9", "bell 500");
        tell("run 30");
        refuses("bell 1000");
        due("count 12", 9);
    }

    private static void theFarthestBell() {
        says("The BELL is for that turn (the greatest int)");
        tell("bell " + MAX);
        due("count 12", MAX);
        makes("reader 1 0 false", 0);
        tell("run 200");
        makes("reader 1 0 false", 1);
        due("about 0 0", 1);
    }

    private static void theBellAtTurnOne() {
        says("The BELL: in state 0: 6 (they never come)");
        furnish(3, 1, 1, 1, 1);
        readers(2);
        tell("ask 0 0", "bell 1", "run 1");
        due("about 0 0", 6);
        due("about 1 0", 6);
        due("about 0 5", 0);
        due("count 4", 2);
        dueEvent(0, 1, 0, 8, 6);
        dueEvent(1, 1, 1, 8, 6);
        due("count 6", 1);
        due("count 11", 0);
    }

    private static void theBellInEveryState() {
        says("in state 1 to 4 or 8: SENT AWAY to 6");
        inEveryState();
        int before = x.count(4);
        tell("bell 4", "run 1");
        for (int r = 0; r < 6; r++) {
            due("about " + r + " 0", 6);
            due("about " + r + " 1", NONE);
            dueEvent(before + r, 4, r, 8, 6);
        }
        due("count 4", before + 6);
        due("place", 0, 0, 0, 6);
        due("queue 0 -1", 0);
        due("seated", 0, NONE, NONE, NONE, NONE);
    }

    private static void theBellLeavesThoseAwayAlone() {
        says("The BELL (READERS in states 5, 7)");
        furnish(2, 1, 1, 1, 1);
        readers(2);
        tell("read 1 30", "mishap 3 0 1", "bell 4", "run 3");
        int before = x.count(4);
        tell("run 1");
        due("about 0 0", 5);
        due("about 1 0", 7);
        due("count 4", before);
    }

    private static void theBellAndFetchers() {
        says("FETCHERS on a WAY to a READER by numbers: the BOX is HOME, they are free.");
        furnish(3, 3, 2, 1, 4);
        readers(3);
        tell("ask 0 0", "ask 1 1", "bell 4", "run 3");
        due("worker 1 0 0", 0);
        due("worker 1 1 0", 1);
        int before = x.count(4);
        tell("run 1");
        due("place", 0, 0, 0, 0);
        for (int f = 0; f < 2; f++) {
            due("worker 1 " + f + " 0", NONE);
            due("worker 1 " + f + " 1", 0);
        }
        due("count 4", before + 2);
        due("count 11", 2);
        due("count 6", 1);
        says("the BELL (a FETCHER on a WAY home goes on)");
        furnish(1, 1, 1, 1, 4);
        readers(1);
        tell("ask 0 0", "bell 8", "run 7");
        due("place 0", 4);
        due("worker 1 0 1", 3);
        tell("run 1");
        due("place 0", 4);
        due("worker 1 0 1", 2);
        tell("run 2");
        due("place 0", 0);
        due("count 6", 1);
    }

    private static void theBellAndAllFetchers() {
        says("FETCHERS on a WAY to a READER by numbers (all four of them)");
        furnish(4, 4, 4, 3, 4);
        readers(4);
        tellTimes(4, "ask # #");
        tell("bell 4", "run 3");
        due("place", 0, 3, 3, 3, 3);
        tell("run 1");
        due("place", 0, 0, 0, 0, 0);
        for (int f = 0; f < 4; f++) {
            due("worker 1 " + f, 0, NONE, 0);
        }
        due("count 11", 4);
    }

    /** A box on its way to one whom a mishap took is on a way to a reader all the same. */
    private static void theBellAndAWayToNobody() {
        says("The BELL: FETCHERS on a WAY to a READER (who has no TICKET)");
        furnish(1, 1, 1, 1, 5);
        readers(1);
        tell("ask 0 0", "mishap 3 0 0", "bell 4", "run 3");
        due("place 0", 3);
        tell("run 1");
        due("place 0", 0);
        due("worker 1 0 0", NONE);
        due("count 6", 1);
    }

    // ---- mishaps: promise 11 ----

    private static void mishapForALaterTurn() {
        says("A MISHAP for a later turn. False: not a later one");
        readers(1);
        refusesEach(new int[] {0, -1, MIN}, "mishap # 0 0");
        tell("run 5");
        refusesEach(new int[] {5, 4, 0, -1, MIN}, "mishap # 0 0");
        refusesEach(new int[] {5, 4, 0, -1, MIN}, "mishap # 1 0");
        refusesEach(new int[] {5, 4, 0, -1, MIN}, "mishap # 2 0");
        due("about 0 0", 1);
        tell("mishap 6 0 0", "run 1");
        due("about 0 0", 7);
    }

    private static void mishapOfNoSuchOne() {
        says("kind 0 of a READER, 1 of a FETCHER, 2 of a COPYIST. False: .. no such one");
        furnish(2, 0, 3, 2, 1);
        readers(2);
        refusesEach(join(FAR, -1, 2, 20), "mishap 1 0 #");
        refusesEach(join(FAR, -1, 3, 4), "mishap 1 1 #");
        refusesEach(join(FAR, -1, 2, 3), "mishap 1 2 #");
        refusesEach(join(FAR, -1, 3), "mishap 1 # 0");
        tell("mishap 1 0 1", "mishap 1 1 2", "mishap 1 2 1", "mishap 1 0 0", "mishap 1 1 0", "mishap 1 2 0");
        due("count 13", 6);
        again();
        refuses("mishap 1 0 0", "mishap 1 1 2", "mishap 1 2 1");
        tell("mishap 1 1 1", "mishap 1 2 0");
    }

    private static void thirtyMishapsAtMost() {
        says("False: .. 30 are told (of turns that have not been)");
        readers(1);
        tellTimes(10, "mishap 3 1 0");
        tellTimes(10, "mishap 2 2 0");
        tellTimes(9, "mishap " + MAX + " 0 0");
        due("count 13", 29);
        tell("mishap 4 1 1");
        due("count 13", 30);
        refuses("mishap 2 0 0", "mishap 9 1 0", "mishap 9 2 0");
        tell("run 1");
        due("count 13", 30);
        refuses("mishap 9 0 0");
        tell("run 1");
        due("count 13", 20);
        tellTimes(10, "mishap 3 2 0");
        refuses("mishap 3 2 0");
        tell("run 1");
        due("count 13", 10);
        tell("run 1");
        due("count 13", 9);
        tellTimes(21, "mishap 90 1 0");
        refuses("mishap 5 0 0");
        due("count 13", 30);
        due("about 0 0", 1);
    }

    private static void mishapsOfReadersInEveryState() {
        says("of a READER that is in state 1 to 4 or 8: it is SENT AWAY to 7. Of others nothing.");
        inEveryState();
        int before = x.count(4);
        tell("mishap 4 0 5", "mishap 4 0 4", "mishap 4 0 3", "mishap 4 0 2", "mishap 4 0 1", "mishap 4 0 0", "run 1");
        for (int r = 0; r < 5; r++) {
            due("about " + r + " 0", 7);
            due("about " + r + " 1", NONE);
            dueEvent(before + 4 - r, 4, r, 8, 7);
        }
        due("about 5 0", 0);
        due("count 4", before + 5);
        due("place", 0, 0, 4, 6);
        due("queue 0 -1", 0);
        due("seated", 0, NONE, NONE, NONE, NONE);
        says("a READER in states 5, 6, 7 (nothing)");
        furnish(2, 1, 1, 1, 1);
        readers(2);
        tell("reader 50 0 false", "read 1 30", "mishap 3 0 1", "mishap 3 0 1", "bell 4", "run 4");
        int ended = x.count(4);
        tell("mishap 5 0 0", "mishap 5 0 1", "mishap 5 0 2", "run 1");
        due("about 0 0", 5);
        due("about 1 0", 7);
        due("about 2 0", 6);
        due("count 4", ended);
        due("count 13", 0);
    }

    private static void mishapsAsTheyWereTold() {
        says("MISHAPS that were told for it, as they were told");
        tellTimes(3, "desk false");
        readers(3);
        tellTimes(3, "read # 30");
        tell("mishap 4 0 2", "mishap 3 0 1", "mishap 4 0 0", "mishap 4 0 2", "run 3");
        due("about 1 0", 7);
        due("about 2 0", 3);
        int before = x.count(4);
        tell("run 1");
        due("count 4", before + 2);
        dueEvent(before, 4, 2, 8, 7);
        dueEvent(before + 1, 4, 0, 8, 7);
    }

    private static void mishapsOfFetchers() {
        says("Of a FETCHER on a WAY: to a READER: the BOX is HOME, its TICKET stays; it is free");
        furnish(2, 2, 1, 1, 4);
        readers(2);
        tell("ask 0 1", "read 0 9", "ask 1 0", "mishap 5 1 0", "run 4");
        due("worker 1 0 1", 2);
        tell("run 1");
        due("worker 1 0 0", 1);
        due("worker 1 0 1", 4);
        due("count 11", 2);
        due("about 0 0", 2);
        tell("run 4");
        due("held 0 0", 1);
        due("about 0 6", 7);
        says("home: the BOX is LEFT");
        furnish(1, 1, 1, 1, 4);
        readers(1);
        tell("ask 0 0", "mishap 9 1 0", "run 8");
        due("place 0", 4);
        due("worker 1 0 1", 2);
        tell("run 1");
        due("place 0", 4);
        due("worker 1 0 1", 4);
        due("count 11", 3);
        tell("run 4");
        due("place 0", 0);
        says("Of others (a FETCHER that is free) nothing.");
        furnish(1, 1, 2, 1, 4);
        readers(1);
        tell("ask 0 0", "mishap 1 1 0", "mishap 4 1 1", "run 4");
        due("worker 1 0 0", 0);
        due("worker 1 0 1", 2);
        due("worker 1 1 0", NONE);
        due("place 0", 3);
    }

    /** In the last turn of a way the mishap is ahead of the way's end, as a is ahead of c. */
    private static void mishapInTheLastTurn() {
        says("a. MISHAPS (ahead of c and d)");
        furnish(1, 1, 1, 1, 2);
        readers(1);
        tell("ask 0 0", "copy 0 0 2 false", "mishap 4 1 0", "run 4");
        due("place 0", 3);
        due("worker 1 0 1", 2);
        tell("run 2");
        due("place 0", 6);
        tell("mishap 8 2 0", "run 2");
        due("place 0", 6);
        due("worker 2 0 1", 2);
        due("count 10", 0);
        tell("run 2");
        due("count 10", 1);
    }

    private static void mishapsOfCopyists() {
        says("Of a COPYIST that copies: the BOX is at place 5 again, its TICKET as it was (the copy begins anew)");
        furnish(2, 2, 2, 1, 1);
        readers(2);
        tell("ask 0 0", "copy 0 0 5 false", "ask 1 1", "copy 1 1 5 false", "mishap 6 2 0", "run 5");
        due("worker 2 0 0", 0);
        due("worker 2 0 1", 3);
        due("queue 2 0", 1);
        tell("run 1");
        due("worker 2 0 0", 0);
        due("worker 2 0 1", 5);
        due("place", 0, 6, 5);
        due("queue 2 -1", 1);
        due("about 0 0", 4);
        due("count 10", 0);
        tell("run 5");
        due("about 0 9", 1);
        says("or, if no READER HAS it, LEFT; it is free");
        furnish(1, 1, 1, 1, 1);
        readers(1);
        tell("ask 0 0", "copy 0 0 9 false", "mishap 4 0 0", "mishap 5 2 0", "run 4");
        due("place 0", 6);
        tell("run 1");
        due("place 0", 4);
        due("worker 2 0 0", NONE);
        due("worker 2 0 1", 0);
        due("count 10", 0);
        says("Of others (a COPYIST that is free) nothing.");
        furnish(1, 1, 1, 2, 1);
        readers(1);
        tell("ask 0 0", "copy 0 0 9 false", "mishap 1 2 0", "mishap 4 2 1", "run 4");
        due("worker 2 0 1", 8);
        due("worker 2 1 0", NONE);
    }

    /** The box goes back to place 5, so that another free copyist of a lesser number may take it up. */
    private static void aCopyTakenUpByAnother() {
        says("(the copy begins anew): FREE COPYISTS by numbers");
        furnish(2, 2, 2, 2, 1);
        readers(2);
        tell("ask 0 0", "copy 0 0 2 false", "ask 1 1", "copy 1 1 9 false", "mishap 5 2 1", "run 4");
        due("worker 2 1 0", 1);
        tell("run 1");
        due("worker 2 0 0", 1);
        due("worker 2 0 1", 9);
        due("worker 2 1 0", NONE);
    }

    private static void mishapsOfPeopleThatAreNoMore() {
        says("(also of a FETCHER or COPYIST that is no more, people() having told fewer since) nothing");
        tell("people 4 3 3", "mishap 4 1 3", "mishap 4 1 1", "mishap 4 2 2", "people 1 1 3");
        due("count 13", 3);
        refuses("mishap 4 1 1", "mishap 4 2 1");
        tell("desk false", "box 0 false");
        readers(1);
        tell("ask 0 0", "run 4");
        due("worker 1 0 1", 1);
        due("worker 1 3 0", NONE);
        due("count 13", 0);
        says("people() having told as many again");
        tell("people 2 1 3", "mishap 4 1 1", "people 1 1 3", "people 2 1 3");
        tellTimes(2, "desk false");
        tellTimes(2, "box # false");
        readers(2);
        tell("ask 0 0", "ask 1 1", "run 4");
        due("worker 1 0 1", 1);
        due("worker 1 1 1", 3);
    }

    // ---- turns: promise 12 ----

    private static void runFromZeroToTwoHundred() {
        says("n TURNS (0 to 200) pass: the turn that it is. NONE for another n.");
        readers(1);
        due("run 0", 0);
        refusesEach(join(FAR, -1, 201), "run #");
        makes("run 1", 1);
        makes("run 200", 201);
        makes("run 0", 201);
        refusesEach(join(FAR, -1, 201), "run #");
        due("count 0", 201);
        due("about 0 5", 201);
    }

    private static void theMostTurns() {
        says("An object is used for at most 512 calls (each of 200 turns)");
        readers(1);
        for (int i = 1; i < 511; i++) {
            due("run 200", 200 * i);
        }
        due("about 0 5", 102000);
    }

    private static void comesToAReaderOrNot() {
        says("or it comes to the READER, if that has the TICKET still; if not, it is LEFT");
        furnish(1, 2, 1, 1, 3);
        readers(2);
        tell("ask 0 0", "ask 1 0", "mishap 3 0 0", "run 4");
        due("place 0", 3);
        due("whose 0", 1);
        tell("run 1");
        due("place 0", 4);
        due("about 1 0", 2);
        due("about 1 3", 0);
        tell("run 3");
        due("place 0", 3);
        tell("run 3");
        due("about 1 0", 5);
        due("about 1 6", 7);
    }

    private static void fetchersByNumbers() {
        says("c. FETCHERS by numbers");
        furnish(3, 3, 3, 1, 4);
        readers(3);
        tell("read 0 1", "ask 0 2", "ask 1 0", "ask 2 1", "mishap 3 1 0", "run 3");
        // The mishap of turn 3 makes fetcher 0 begin anew in the turn in which fetcher 2 begins.
        due("worker 1 0 0", 0);
        due("worker 1 1 0", 1);
        due("worker 1 2 0", 2);
        int before = x.count(4);
        tell("run 4");
        due("count 4", before + 6);
        dueEvent(before, 6, 2, 5, 1);
        dueEvent(before + 1, 6, 2, 8, 5);
        dueEvent(before + 2, 7, 1, 5, 0);
        dueEvent(before + 3, 7, 0, 5, 2);
        dueEvent(before + 4, 7, 0, 8, 5);
        dueEvent(before + 5, 7, 1, 8, 5);
    }

    private static void copyistsByNumbers() {
        says("d. COPYISTS by numbers");
        furnish(2, 2, 2, 2, 1);
        readers(2);
        tell("ask 0 0", "copy 0 0 3 false", "ask 1 1", "copy 1 1 3 true", "run 3");
        due("worker 2 0 0", 1);
        due("worker 2 1 0", 0);
        int before = x.count(4);
        tell("run 3");
        due("count 4", before + 4);
        dueEvent(before, 6, 1, 6, 1);
        dueEvent(before + 1, 6, 0, 6, 0);
        dueEvent(before + 2, 6, 0, 8, 5);
        dueEvent(before + 3, 6, 1, 8, 5);
    }

    private static void readersGoOnByNumbers() {
        says("f. READERS by numbers in state 8 GO ON.");
        tellTimes(3, "desk false");
        tell("box 0 false", "box 0 false", "people 1 1 1");
        readers(3);
        tell("read 0 2", "ask 0 1", "read 0 30", "ask 1 0", "read 1 1", "back 1 0", "read 1 30", "read 2 2");
        tell("ask 2 1", "run 4");
        due("refused 0 0", 4);
        due("about 1 3", 0);
        due("about 2 10", 0);
        due("whose 1", 2);
    }

    private static void comesAtItsTurn() {
        says("g. READERS in state 0 whose turn it is: state 1 (those of an earlier one, too).");
        tell("run 7", "reader 7 0 false", "reader 3 0 false", "reader 8 0 false", "reader 9 0 false");
        due("about 0 0", 0);
        tell("run 1");
        for (int r = 0; r < 4; r++) {
            due("about " + r + " 0", r < 3 ? 1 : 0);
        }
        due("count 4", 3);
        dueEvent(0, 8, 0, 1, 1);
        dueEvent(1, 8, 1, 1, 1);
        dueEvent(2, 8, 2, 1, 1);
        tell("run 1");
        due("about 3 0", 1);
        dueEvent(3, 9, 3, 1, 1);
    }

    private static void aRoomWithoutDesks() {
        says("(Without one it waits.)");
        readers(2);
        tell("reader 1 3 true", "run 200");
        for (int r = 0; r < 3; r++) {
            due("about " + r + " 0", 1);
            due("about " + r + " 5", 200);
            due("about " + r + " 8", 0);
        }
        due("count 7", 200);
        due("queue 0 -1", 3);
        says("first free desk that is WATCHED, if it needs one (and there is none such)");
        tellTimes(2, "desk false");
        tell("reader 1 3 true", "reader 1 0 false", "run 1");
        due("about 0 0", 1);
        due("about 0 8", 1);
        due("seated", 0, 1, NONE);
    }

    private static void whichDesk() {
        says("the first free desk that is WATCHED, if it needs one; else the first free one that isn't, else "
            + "the first free one");
        tell("desk true", "desk true", "desk false", "desk false", "desk true");
        tellTimes(6, "reader 1 1 false");
        tell("reader 1 3 true", "run 1");
        due("seated", 0, 6, 2, 0, 1, 3);
        due("queue 0 -1", 2);
        due("queue 0 0", 4);
    }

    private static void inTheOrderOfDesks() {
        says("those of greater RANK first, then of the earlier turn told, then of the lesser number");
        tell("run 9", "reader 5 1 false", "reader 4 1 false", "reader 5 2 false", "reader 4 1 false");
        tell("reader 9 3 false", "reader 1 0 false", "run 1");
        int[] order = {4, 2, 1, 3, 0, 5};
        for (int i = 0; i < order.length; i++) {
            due("queue 0 " + i, order[i]);
        }
        due("queue 0 6", NONE);
        due("queue 0 -1", 6);
    }

    private static void leftBoxesFirst() {
        says("i. the LEFT BOX of the least number: on its way home; else, of TICKETS whose BOX is HOME, the first");
        furnish(3, 6, 1, 1, 1);
        readers(3);
        tell("ask 0 5", "ask 0 3", "ask 0 4", "read 0 1", "read 1 5", "ask 1 1", "read 2 4", "ask 2 2", "run 5");
        due("about 0 3", 3);
        tell("run 1");
        due("place", 0, 0, 0, 0, 4, 2, 2);
        tell("run 1");
        due("place", 0, 0, 0, 0, 0, 4, 2);
        due("queue 1 0", 2);
        due("queue 1 1", 1);
        tell("run 1");
        due("place", 0, 0, 0, 0, 0, 0, 4);
        tell("run 1");
        due("place", 0, 0, 0, 3, 0, 0, 0);
        due("queue 1 0", 1);
    }

    private static void oneBoxOneFetcher() {
        says("i. FETCHERS by numbers that are free (more of them than BOXES)");
        furnish(1, 1, 4, 3, 2);
        readers(1);
        tell("ask 0 0", "copy 0 0 2 true", "run 2");
        due("worker 1 0 0", 0);
        for (int f = 1; f < 4; f++) {
            due("worker 1 " + f + " 0", NONE);
            due("worker 1 " + f + " 1", 0);
        }
        due("count 11", 1);
        tell("run 2");
        due("worker 2 0 0", 0);
        due("worker 2 1 0", NONE);
        due("worker 2 2 1", 0);
    }

    private static void threeUrgentCopiesAtMost() {
        says("j. the first urgent one; but if the latest three copies that were begun were urgent ones, or there "
            + "is no urgent one, the first that is not");
        furnish(8, 8, 4, 1, 1);
        readers(8);
        tell("ask 0 0", "copy 0 0 9 false");
        for (int r = 1; r < 8; r++) {
            tell("read " + r + " 1", "ask " + r + " " + r, "copy " + r + " " + r + " 1 " + (r != 4 && r != 7));
        }
        tell("run 11");
        due("queue 2 -1", 7);
        for (int i = 0; i < 7; i++) {
            due("queue 2 " + i, i + 1);
        }
        due("count 14", 0);
        int[] rows = {1, 2, 3, 0, 1, 2, 0};
        for (int i = 0; i < 7; i++) {
            tell("run 1");
            due("worker 2 0 0", i + 1);
            due("count 14", rows[i]);
        }
        tell("run 1");
        due("worker 2 0 0", NONE);
        due("count 14", 0);
        due("count 10", 8);
    }

    private static void aSecondCopy() {
        says("j. of BOXES at place 5 by when their TICKETS came (a READER's second one)");
        furnish(2, 2, 2, 1, 1);
        readers(2);
        tellTimes(2, "ask # #");
        tell("copy 0 0 2 false", "copy 0 0 1 false", "copy 1 1 3 false", "run 5");
        due("about 0 9", 1);
        due("worker 2 0 0", 1);
        due("worker 2 0 1", 3);
        due("queue 2", "-1 0 1", 1, 0, NONE);
        tell("run 3");
        due("worker 2 0 0", 0);
        due("worker 2 0 1", 1);
        due("queue 2", "-1 0", 0, NONE);
    }

    private static void aSecondTicket() {
        says("i. of TICKETS whose BOX is HOME, the first one by when they came (a READER's second one)");
        furnish(2, 3, 1, 1, 2);
        readers(2);
        tell("ask 0 0", "ask 0 1", "ask 1 2", "run 4");
        due("held 0 0", 0);
        due("worker 1 0 0", 2);
        due("queue 1", "-1 0 1", 1, 0, NONE);
        tell("run 2");
        due("place", 0, 1, 0, 4);
        tell("run 2");
        due("worker 1 0 0", 1);
    }

    private static void onlyUrgentCopies() {
        says("if there is none such, the first urgent one. .. one behind the other (at most 3)");
        furnish(6, 6, 4, 1, 1);
        readers(6);
        for (int r = 0; r < 6; r++) {
            tell("ask " + r + " " + r, "copy " + r + " " + r + " 2 true");
        }
        tell("run 3");
        for (int i = 0; i < 6; i++) {
            due("worker 2 0 0", i);
            due("count 14", Math.min(i + 1, 3));
            tell("run 2");
        }
        due("count 14", 3);
        due("count 10", 6);
    }

    private static void copiesOfAllCopyists() {
        says("the latest three copies that were begun (of all)");
        furnish(5, 5, 4, 3, 1);
        readers(5);
        for (int r = 0; r < 5; r++) {
            tell("ask " + r + " " + r, "read " + r + " " + (r == 4 ? 1 : 2));
            tell("copy " + r + " " + r + " 2 " + (r != 0));
        }
        // All five wait from turn 5 on: four urgent ones, and one that is not and came first.
        tell("run 5");
        due("worker 2 0 0", 1);
        due("worker 2 1 0", 2);
        due("worker 2 2 0", 3);
        due("count 14", 3);
        due("queue 2 0", 0);
        due("queue 2 1", 4);
        tell("run 2");
        due("worker 2 0 0", 0);
        due("worker 2 1 0", 4);
        due("worker 2 2 0", NONE);
        due("count 14", 1);
    }

    private static void copiesOfMishaps() {
        says("the latest three copies that were begun (mishaps' too)");
        furnish(2, 2, 2, 1, 1);
        readers(2);
        tell("ask 0 0", "copy 0 0 9 true", "ask 1 1", "copy 1 1 9 false", "mishap 4 2 0", "mishap 5 2 0");
        tell("mishap 6 2 0", "run 3");
        due("count 14", 1);
        tell("run 1");
        due("worker 2 0 0", 0);
        due("count 14", 2);
        tell("run 1");
        due("worker 2 0 0", 0);
        due("count 14", 3);
        tell("run 1");
        due("worker 2 0 0", 1);
        due("count 14", 0);
        due("place", 0, 5, 6);
    }

    // ---- QUIET, WAITED, OVERTAKEN, EVENTS ----

    private static void whetherItIsQuiet() {
        says("QUIET is the room if all READERS are in states 5, 6, 7, and all BOXES HOME.");
        due("count 6", 1);
        tell("desk false", "box 0 false", "people 1 1 2");
        due("count 6", 1);
        tell("reader 2 0 false");
        due("count 6", 0);
        tell("ask 0 0", "run 1");
        due("count 6", 0);
        tell("run 3");
        due("place 0", 3);
        due("count 6", 0);
        tell("run 1");
        due("about 0 0", 5);
        due("place 0", 4);
        due("count 5", 0);
        due("count 6", 0);
        tell("run 1");
        due("count 6", 0);
        tell("run 1");
        due("count 5", 1);
        due("count 6", 1);
        tell("reader 9 0 false");
        due("count 6", 0);
        tell("bell 8", "run 1");
        due("count 6", 1);
    }

    private static void howLongItWaited() {
        says("WAITED of a READER: how many turns ended with it in state 1, 2, 4");
        furnish(1, 1, 1, 1, 2);
        readers(2);
        tell("ask 0 0", "copy 0 0 3 false", "run 1");
        due("about 0 5", 0);
        due("about 1 5", 1);
        tell("run 20");
        int[] waited = {0, 2, 3};
        for (int i = 0; i < 3; i++) {
            due("about 0 " + (5 + i), waited[i]);
            due("about 1 " + (5 + i), i == 0 ? 6 : 0);
            due("count " + (7 + i), i == 0 ? 6 : waited[i]);
        }
    }

    private static void whoOvertakes() {
        says("READERS that came into state 1 behind it (in the same turn with a greater number) got a desk ahead");
        tellTimes(2, "desk false");
        tell("reader 1 1 false", "reader 1 0 false", "reader 1 1 false", "reader 1 0 false");
        tellTimes(4, "read # 2");
        tell("run 1");
        due("seated", 0, 0, 2);
        for (int r = 0; r < 4; r++) {
            due("about " + r + " 8", r == 1 ? 1 : 0);
        }
        says("(in a later turn, though with a lesser number)");
        tell("desk false", "reader 3 3 false", "reader 2 0 false", "reader 1 0 false", "read 2 2", "run 4");
        due("seated 0", 0);
        due("about 0 8", 0);
        due("about 1 8", 1);
        due("about 2 8", 0);
        says("(in a later turn), whatever the turn told");
        tell("desk false", "reader 1 3 false", "read 0 9", "run 4", "reader 5 2 false", "run 1");
        tell("reader 1 2 false", "run 5");
        due("seated 0", 0);
        tell("run 1");
        due("seated 0", 2);
        due("about 1 8", 1);
        due("about 2 8", 0);
        tell("run 1");
        due("seated 0", 1);
        due("about 1 8", 1);
    }

    private static void notOvertaken() {
        says("OVERTAKEN: .. got a desk ahead of it (not behind it, and not who came ahead of it)");
        tell("desk false", "desk true", "reader 1 0 false", "reader 1 0 true", "reader 2 3 false", "run 1");
        tell("run 1");
        due("seated", 0, 2, NONE);
        for (int r = 0; r < 3; r++) {
            due("about " + r + " 8", 0);
        }
    }

    private static void theFirstFourHundred() {
        says("EVENTS (the first 400 are kept)");
        furnish(1, 1, 1, 1, 1);
        readers(19);
        tell("reader 100 0 false");
        for (int r = 0; r < 20; r++) {
            // came, got a desk, 16 refused, left; with a box two more: asks, HAS, gave back, HOME for two refused.
            tell(r < 18 ? "ask " + r + " 0" : "back " + r + " 0");
            tellTimes(15, "back " + r + " 0");
        }
        tell("run 99");
        due("count 4", 397);
        due("event 397 0", THROWS);
        tell("run 1");
        due("count 4", 399);
        dueEvent(398, 100, 19, 2, 0);
        due("event 399 0", THROWS);
        tell("run 1");
        due("count 4", 400);
        dueEvent(399, 101, 19, 4, 5);
        due("event 400 0", THROWS);
        due("about 19 10", 16);
        due("refused 19 15", 5);
        due("about 19 0", 5);
        tell("run 100");
        due("count 4", 400);
        dueEvent(399, 101, 19, 4, 5);
        dueEvent(0, 1, 0, 1, 1);
        due("event 400 3", THROWS);
    }

    private static void eventsOfEachKind() {
        says("turn, READER (NONE of 9), what, and a number");
        furnish(1, 1, 1, 1, 1);
        readers(1);
        tell("copy 0 0 1 true", "ask 0 0", "copy 0 0 2 true", "back 0 0", "read 0 2", "run 9");
        int[][] events = {{1, 0, 1, 1}, {1, 0, 2, 0}, {2, 0, 4, 5}, {2, 0, 3, 0}, {3, 0, 5, 0}, {5, 0, 6, 0},
            {5, 0, 7, 0}, {6, NONE, 9, 0}, {7, 0, 8, 5}};
        due("count 4", events.length);
        for (int i = 0; i < events.length; i++) {
            dueEvent(i, events[i]);
        }
    }

    private static void homeWithoutAWaysEnd() {
        says("9 a BOX is HOME by a WAY's end");
        furnish(1, 1, 1, 1, 5);
        readers(1);
        tell("ask 0 0", "mishap 4 0 0", "mishap 4 1 0", "run 9");
        due("place 0", 0);
        due("count 4", 4);
        dueEvent(3, 4, 0, 8, 7);
    }

    // ---- questions: promises 13 to 22 ----

    private static void aboutNoSuchOne() {
        says("NONE: no such one, another what. (about)");
        readers(2);
        tell("run 1");
        for (int what = 0; what <= 10; what++) {
            refusesEach(join(FAR, -1, 2, 20), "about # " + what);
        }
        refusesEach(join(FAR, -1, 11, 12), "about 0 #");
        refusesEach(join(FAR, -1, 11, 12), "about 1 #");
    }

    private static void aboutBeforeItCame() {
        says("what 0 its state; 1 its desk (NONE without); .. 4 turns left to read (0 unless it reads)");
        furnish(1, 1, 1, 1, 1);
        tell("reader 3 0 false", "read 0 5", "run 2");
        due("about 0", 0, 0, NONE, 0, 0, 0, 0, 0, 0, 0, 0, 0, NONE);
        tell("run 1");
        due("about 0", 0, 8, 0, 0, 0, 0, 0, 0, 0, 0, 0, 0, NONE);
        tell("run 1");
        due("about 0", 0, 3, 0, 1, 0, 5, 0, 0, 0, 0, 0, 0, NONE);
        tell("mishap 6 0 0", "run 2");
        due("about 0", 0, 7, NONE, 1, 0, 0, 0, 0, 0, 0, 0, 0, NONE);
    }

    private static void heldWithoutOne() {
        says("The i-th BOX that a READER HAS, by numbers. NONE without one.");
        furnish(2, 6, 1, 1, 1);
        readers(2);
        refusesEach(join(FAR, -1, 0, 1), "held 0 #");
        tell("ask 0 5", "ask 0 0", "ask 0 3", "copy 0 3 9 true", "run 5");
        due("held 0", 0, 0, 3, 5, NONE);
        due("about 0 3", 3);
        refusesEach(join(FAR, -1, 3, 4, 5), "held 0 #");
        refusesEach(join(FAR, -1, 1, 2, 20), "held # 0");
    }

    private static void refusedWithoutOne() {
        says("The RULE for the i-th step of a READER that was refused (from 0 on). NONE without one.");
        tell("desk false", "box 0 false", "box 1 true");
        readers(2);
        refusesEach(join(FAR, -1, 0, 1), "refused 0 #");
        tell("back 0 0", "ask 0 1", "run 2");
        due("refused 0", 0, 5, 2, NONE);
        refusesEach(join(FAR, -1, 2, 15, 16), "refused 0 #");
        refusesEach(join(FAR, -1, 1, 2, 20), "refused # 0");
    }

    private static void placeOfNoSuchBox() {
        says("The PLACE of a BOX. NONE: no such one.");
        refusesEach(join(FAR, -1, 0, 1), "place #");
        tell("box 0 false", "box 0 false");
        due("place", -1, NONE, 0, 0, NONE);
        refusesEach(join(FAR, -1, 2, 39, 40), "place #");
    }

    private static void whoseOfNobody() {
        says("Whose BOX is. NONE: nobody, no such BOX.");
        refusesEach(join(FAR, -1, 0, 1), "whose #");
        furnish(1, 2, 1, 1, 1);
        readers(1);
        refusesEach(join(FAR, -1, 0, 1, 2, 39, 40), "whose #");
        tell("ask 0 1", "run 2");
        due("whose", 0, NONE, 0, NONE);
        tell("run 1");
        due("place 1", 4);
        due("whose", 0, NONE, NONE, NONE);
    }

    private static void seatedAtNoSuchDesk() {
        says("The READER at a desk. NONE: nobody, no such desk.");
        refusesEach(join(FAR, -1, 0, 1), "seated #");
        tellTimes(2, "desk false");
        readers(1);
        refusesEach(join(FAR, -1, 0, 1, 2, 11, 12), "seated #");
        tell("run 1");
        due("seated", -1, NONE, 0, NONE, NONE);
    }

    private static void workerOfNoSuchKind() {
        says("NONE: no such one, other numbers. (worker)");
        furnish(1, 1, 2, 3, 1);
        readers(1);
        refusesEach(join(FAR, -1, 0, 3), "worker # 0 0");
        refusesEach(join(FAR, -1, 0, 3), "worker # 0 1");
        refusesEach(join(FAR, -1, 2, 3, 4), "worker 1 # 1");
        refusesEach(join(FAR, -1, 3, 4), "worker 2 # 1");
        refusesEach(join(FAR, -1, 2), "worker 1 0 #");
        refusesEach(join(FAR, -1, 2), "worker 2 0 #");
        says("its BOX (NONE if it is free); 1: turns, pages still (0)");
        for (int kind = 1; kind <= 2; kind++) {
            due("worker " + kind + " 0", 0, NONE, 0);
        }
    }

    private static void queuesWithoutAnyone() {
        says("The i-th; for i NONE how many. NONE: none such, another kind.");
        for (int kind = 0; kind < 3; kind++) {
            due("queue " + kind + " -1", 0);
            refusesEach(join(FAR, 0, 1, -2), "queue " + kind + " #");
        }
        refusesEach(join(FAR, -1, 3), "queue # -1");
        refusesEach(join(FAR, -1, 3), "queue # 0");
    }

    /** Turn 6: one box waits for its fetcher, one for its copyist, one reader for a desk. */
    private static void queuesOfOne() {
        says("What waits: kind 0 READERS for desks; 1 TICKETS for BOXES; 2 TICKETS of BOXES at place 5");
        furnish(4, 4, 1, 1, 2);
        readers(5);
        tell("ask 0 0", "copy 0 0 30 true", "ask 1 1", "copy 1 1 30 true", "read 2 2", "ask 2 2", "read 3 2");
        tell("ask 3 3", "run 6");
        due("queue 0 -1", 1);
        due("queue 0 0", 4);
        due("queue 0 1", NONE);
        due("queue 1 -1", 1);
        due("queue 1 0", 3);
        due("queue 1 1", NONE);
        due("queue 2 -1", 1);
        due("queue 2 0", 1);
        due("queue 2 1", NONE);
        for (int kind = 0; kind < 3; kind++) {
            refusesEach(join(FAR, 1, 2, -2), "queue " + kind + " #");
        }
    }

    private static void ticketsThatWait() {
        says("1 TICKETS for BOXES that are not on their way to a READER, as they came");
        furnish(2, 2, 1, 1, 3);
        readers(2);
        tell("ask 0 1", "back 0 1", "ask 0 1", "ask 1 0", "run 2");
        due("queue 1", "-1 0 1", 1, 1, NONE);
        tell("run 3");
        due("place", 0, 0, 4);
        due("queue 1", "-1 0 1 2", 2, 1, 0, NONE);
        tell("run 3");
        due("place", 0, 3, 0);
        due("queue 1", "-1 0 1", 1, 0, NONE);
    }

    private static void noSuchEvent() {
        says("NoSuchElementException: there is none such, another what.");
        int[] none = join(FAR, -1, 0, 1, 399, 400);
        for (int i : none) {
            due("event " + i + " 0", THROWS);
        }
        tell("desk false");
        readers(1);
        tell("run 1");
        int[] noEvent = join(FAR, -1, 2, 3, 399, 400, 1 << 29, (1 << 30) + 1, -(1 << 30));
        for (int i : noEvent) {
            for (int what = 0; what < 4; what++) {
                due("event " + i + " " + what, THROWS);
            }
        }
        for (int what : join(FAR, -1, 4, 5)) {
            due("event 0 " + what, THROWS);
            due("event 1 " + what, THROWS);
        }
        dueEvent(0, 1, 0, 1, 1);
        dueEvent(1, 1, 0, 2, 0);
    }

    private static void noSuchCount() {
        says("NONE for another what. (count)");
        refusesEach(join(FAR, -1, 15, 16), "count #");
        tell("desk false", "bell 9");
        readers(1);
        tell("run 1");
        refusesEach(join(FAR, -1, 15, 16), "count #");
        due("count", 0, 1, 1, 0, 1, 2, 0, 0, 0, 0, 0, 0, 0, 9, 0, 0, NONE);
    }

    public static void main(String[] args) {
        nothingAtFirst();
        desksAtMostTwelve();
        desksBeforeTheFirstTurn();
        boxesAtMostForty();
        fondsFromZeroToNine();
        boxesBeforeTheFirstTurn();
        peopleWithinTheirLimits();
        theFewestPeople();
        theMostPeople();
        peopleAtFirst();
        peopleBeforeTheFirstTurn();
        readersAtMostTwenty();
        arrivalsFromOneToAThousand();
        ranksFromZeroToThree();
        noReadersBehindTheBell();
        plansAtMostSixteen();
        sixteenStepsOfEachKind();
        stepsOfNoSuchReader();
        stepsOfReadersThatAreAway();
        stepsInEveryOtherState();
        stepsOfNoSuchBox();
        readFromOneToFifty();
        copyFromOneToThirty();
        threeBoxesAtMost();
        preciousBoxes();
        aBoxThatItHas();
        fondsOfAnother();
        fondsOfNobody();
        fondsOfItsOwn();
        theFirstRuleThatHolds();
        copyOfABoxThatItHasNot();
        backOfABoxThatItHasNot();
        anEmptyPlan();
        refusedStepsAreDoneAtOnce();
        givenBackAndOn();
        leavesWithThreeBoxes();
        sentAwayWithATicket();
        sentAwayWithACopy();
        sentAwayWithBoxes();
        bellForALaterTurn();
        oneBellAtMost();
        theFarthestBell();
        theBellAtTurnOne();
        theBellInEveryState();
        theBellLeavesThoseAwayAlone();
        theBellAndFetchers();
        theBellAndAllFetchers();
        theBellAndAWayToNobody();
        mishapForALaterTurn();
        mishapOfNoSuchOne();
        thirtyMishapsAtMost();
        mishapsOfReadersInEveryState();
        mishapsAsTheyWereTold();
        mishapsOfFetchers();
        mishapInTheLastTurn();
        mishapsOfCopyists();
        aCopyTakenUpByAnother();
        mishapsOfPeopleThatAreNoMore();
        runFromZeroToTwoHundred();
        theMostTurns();
        comesToAReaderOrNot();
        fetchersByNumbers();
        copyistsByNumbers();
        readersGoOnByNumbers();
        comesAtItsTurn();
        aRoomWithoutDesks();
        whichDesk();
        inTheOrderOfDesks();
        leftBoxesFirst();
        oneBoxOneFetcher();
        threeUrgentCopiesAtMost();
        aSecondCopy();
        aSecondTicket();
        onlyUrgentCopies();
        copiesOfAllCopyists();
        copiesOfMishaps();
        whetherItIsQuiet();
        howLongItWaited();
        whoOvertakes();
        notOvertaken();
        theFirstFourHundred();
        eventsOfEachKind();
        homeWithoutAWaysEnd();
        aboutNoSuchOne();
        aboutBeforeItCame();
        heldWithoutOne();
        refusedWithoutOne();
        placeOfNoSuchBox();
        whoseOfNobody();
        seatedAtNoSuchDesk();
        workerOfNoSuchKind();
        queuesWithoutAnyone();
        queuesOfOne();
        ticketsThatWait();
        noSuchEvent();
        noSuchCount();
        System.out.println((asked - wrong) + " passed, " + wrong + " failed");
        if (wrong != 0) {
            System.exit(1);
        }
    }
}
