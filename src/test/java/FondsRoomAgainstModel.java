import java.util.ArrayList;
import java.util.Comparator;
import java.util.List;
import java.util.NoSuchElementException;
import java.util.Random;

/**
 * Many runs of calls, drawn from fixed seeds, on the class and on a slow second telling of the
 * document: after each call every answer of the two must be the same.
 */
public final class FondsRoomAgainstModel {
    private static final int RUNS = 3000;
    private static final int CALLS = 60;
    private static final int MOST_CALLS = 512;

    // ---- the second telling ----

    private static final class Step {
        char kind;
        int box;
        int amount;
        boolean urgent;
    }

    private static final class Ticket {
        int reader;
        int box;
        boolean forCopy;
        int pages;
        boolean urgent;
    }

    private static final class Person {
        int number;
        int arrival;
        int rank;
        boolean watched;
        int state;
        int desk = -1;
        int came;
        int done;
        int reading;
        int[] waited = new int[9];
        int overtaken;
        int copies;
        List<Step> steps = new ArrayList<>();
        List<Integer> rules = new ArrayList<>();
        List<Integer> has = new ArrayList<>();
    }

    private static final class Hand {
        int box = -1;
        int left;
        int reader = -1;
    }

    private static final class Model {
        List<Boolean> desks = new ArrayList<>();
        List<int[]> boxes = new ArrayList<>();
        List<Integer> places = new ArrayList<>();
        List<Person> persons = new ArrayList<>();
        List<Ticket> tickets = new ArrayList<>();
        List<int[]> mishaps = new ArrayList<>();
        List<int[]> events = new ArrayList<>();
        List<Boolean> begun = new ArrayList<>();
        Hand[] fetchers = hands(2);
        Hand[] copyists = hands(1);
        int way = 2;
        int turn;
        int bell = -1;
        int made;
        int ways;

        static Hand[] hands(int n) {
            Hand[] hands = new Hand[n];
            for (int i = 0; i < n; i++) {
                hands[i] = new Hand();
            }
            return hands;
        }

        void note(int reader, int what, int number) {
            events.add(new int[] {turn, reader, what, number});
        }

        boolean addStep(int r, char kind, int box, int amount, boolean urgent) {
            if (r < 0 || r >= persons.size() || away(persons.get(r)) || persons.get(r).steps.size() == 16) {
                return false;
            }
            if (kind != 'r' && (box < 0 || box >= boxes.size())) {
                return false;
            }
            if (kind == 'r' && (amount < 1 || amount > 50) || kind == 'c' && (amount < 1 || amount > 30)) {
                return false;
            }
            Step step = new Step();
            step.kind = kind;
            step.box = box;
            step.amount = amount;
            step.urgent = urgent;
            persons.get(r).steps.add(step);
            return true;
        }

        boolean away(Person p) {
            return p.state >= 5 && p.state <= 7;
        }

        int haver(int box) {
            for (Person p : persons) {
                if (p.has.contains(box)) {
                    return p.number;
                }
            }
            return -1;
        }

        int ticketOwner(int box) {
            for (Ticket t : tickets) {
                if (!t.forCopy && t.box == box) {
                    return t.reader;
                }
            }
            return -1;
        }

        int whose(int box) {
            return haver(box) != -1 ? haver(box) : ticketOwner(box);
        }

        void sendOff(Person p, int state) {
            tickets.removeIf(t -> t.reader == p.number);
            for (int box : p.has) {
                if (places.get(box) != 6) {
                    places.set(box, 2);
                }
            }
            p.has.clear();
            p.desk = -1;
            p.state = state;
            note(p.number, 8, state);
        }

        void pass() {
            turn++;
            for (int[] m : mishaps) {
                if (m[0] == turn) {
                    suffer(m[1], m[2]);
                }
            }
            mishaps.removeIf(m -> m[0] == turn);
            if (bell == turn) {
                for (Person p : persons) {
                    if (!away(p)) {
                        sendOff(p, 6);
                    }
                }
                for (Hand f : fetchers) {
                    if (f.box >= 0 && places.get(f.box) == 3) {
                        places.set(f.box, 0);
                        f.box = -1;
                        f.left = 0;
                    }
                }
            }
            walk();
            work();
            for (Person p : persons) {
                if (p.state == 3 && --p.reading == 0) {
                    p.state = 8;
                }
            }
            for (Person p : persons) {
                goOn(p);
            }
            for (Person p : persons) {
                if (p.state == 0 && p.arrival <= turn) {
                    p.state = 1;
                    p.came = turn;
                    note(p.number, 1, 1);
                }
            }
            for (Person p : waiting()) {
                sit(p);
            }
            fetch();
            copyNext();
            for (Person p : persons) {
                p.waited[p.state]++;
            }
        }

        void suffer(int kind, int who) {
            if (kind == 0) {
                Person p = persons.get(who);
                if (p.state != 0 && !away(p)) {
                    sendOff(p, 7);
                }
                return;
            }
            Hand[] hands = kind == 1 ? fetchers : copyists;
            if (who >= hands.length || hands[who].box < 0) {
                return;
            }
            int box = hands[who].box;
            int place = places.get(box);
            if (place == 3) {
                places.set(box, 0);
            } else if (place == 6 && haver(box) != -1) {
                places.set(box, 5);
            } else {
                places.set(box, 2);
            }
            hands[who].box = -1;
            hands[who].left = 0;
        }

        void walk() {
            for (Hand f : fetchers) {
                if (f.box < 0 || --f.left > 0) {
                    continue;
                }
                int box = f.box;
                f.box = -1;
                if (places.get(box) == 4) {
                    places.set(box, 0);
                    note(-1, 9, box);
                } else if (ticketOwner(box) == f.reader) {
                    Person p = persons.get(f.reader);
                    tickets.removeIf(t -> t.reader == p.number);
                    p.has.add(box);
                    p.state = 8;
                    places.set(box, 1);
                    note(p.number, 5, box);
                } else {
                    places.set(box, 2);
                }
            }
        }

        void work() {
            for (Hand c : copyists) {
                if (c.box < 0 || --c.left > 0) {
                    continue;
                }
                int box = c.box;
                c.box = -1;
                made++;
                if (haver(box) == -1) {
                    places.set(box, 2);
                    continue;
                }
                Person p = persons.get(haver(box));
                tickets.removeIf(t -> t.reader == p.number);
                places.set(box, 1);
                p.state = 8;
                p.copies++;
                note(p.number, 6, box);
            }
        }

        void goOn(Person p) {
            while (p.state == 8) {
                if (p.done == p.steps.size()) {
                    sendOff(p, 5);
                    return;
                }
                Step step = p.steps.get(p.done++);
                int rule = 0;
                if (step.kind == 'r') {
                    p.state = 3;
                    p.reading = step.amount;
                } else if (step.kind == 'a') {
                    note(p.number, 3, step.box);
                    rule = askRule(p, step.box);
                    if (rule == 0) {
                        addTicket(p, step, false);
                        p.state = 2;
                    }
                } else if (!p.has.contains(step.box)) {
                    rule = 5;
                } else if (step.kind == 'c') {
                    addTicket(p, step, true);
                    p.state = 4;
                    places.set(step.box, 5);
                } else {
                    p.has.remove((Integer) step.box);
                    places.set(step.box, 2);
                    note(p.number, 7, step.box);
                }
                if (rule != 0) {
                    p.rules.add(rule);
                    note(p.number, 4, rule);
                }
            }
        }

        int askRule(Person p, int box) {
            if (p.has.size() == 3) {
                return 1;
            }
            if (boxes.get(box)[1] == 1 && !desks.get(p.desk)) {
                return 2;
            }
            if (p.has.contains(box)) {
                return 3;
            }
            for (int b = 0; b < boxes.size(); b++) {
                if (boxes.get(b)[0] == boxes.get(box)[0] && whose(b) != -1 && whose(b) != p.number) {
                    return 4;
                }
            }
            return 0;
        }

        void addTicket(Person p, Step step, boolean forCopy) {
            Ticket t = new Ticket();
            t.reader = p.number;
            t.box = step.box;
            t.forCopy = forCopy;
            t.pages = step.amount;
            t.urgent = step.urgent;
            tickets.add(t);
        }

        List<Person> waiting() {
            List<Person> line = new ArrayList<>();
            for (Person p : persons) {
                if (p.state == 1) {
                    line.add(p);
                }
            }
            line.sort(Comparator.comparingInt((Person p) -> -p.rank).thenComparingInt(p -> p.arrival)
                .thenComparingInt(p -> p.number));
            return line;
        }

        int seated(int desk) {
            for (Person p : persons) {
                if (p.desk == desk && desk >= 0) {
                    return p.number;
                }
            }
            return -1;
        }

        void sit(Person p) {
            int best = -1;
            for (int d = desks.size() - 1; d >= 0; d--) {
                boolean free = seated(d) == -1;
                if (free && p.watched && desks.get(d)) {
                    best = d;
                } else if (free && !p.watched && (best == -1 || !desks.get(d) || desks.get(best))) {
                    best = d;
                }
            }
            if (best == -1) {
                return;
            }
            p.desk = best;
            p.state = 8;
            note(p.number, 2, best);
            for (Person other : persons) {
                boolean behind = p.came > other.came || p.came == other.came && p.number > other.number;
                if (other.state == 1 && behind) {
                    other.overtaken++;
                }
            }
        }

        void fetch() {
            for (Hand f : fetchers) {
                if (f.box >= 0) {
                    continue;
                }
                f.box = places.indexOf(2);
                f.left = way;
                if (f.box >= 0) {
                    places.set(f.box, 4);
                    ways++;
                    continue;
                }
                f.left = 0;
                for (Ticket t : tickets) {
                    if (!t.forCopy && places.get(t.box) == 0) {
                        f.box = t.box;
                        f.left = way;
                        f.reader = t.reader;
                        places.set(t.box, 3);
                        ways++;
                        break;
                    }
                }
            }
        }

        int row() {
            int row = 0;
            while (row < 3 && row < begun.size() && begun.get(begun.size() - 1 - row)) {
                row++;
            }
            return row;
        }

        void copyNext() {
            for (Hand c : copyists) {
                if (c.box >= 0) {
                    continue;
                }
                Ticket pick = null;
                boolean wantUrgent = row() < 3;
                for (Ticket t : tickets) {
                    boolean open = t.forCopy && places.get(t.box) == 5;
                    if (open && (pick == null || pick.urgent != wantUrgent && t.urgent == wantUrgent)) {
                        pick = t;
                    }
                }
                if (pick != null) {
                    c.box = pick.box;
                    c.left = pick.pages;
                    places.set(pick.box, 6);
                    begun.add(pick.urgent);
                }
            }
        }

        List<Integer> queue(int kind) {
            List<Integer> line = new ArrayList<>();
            if (kind == 0) {
                for (Person p : waiting()) {
                    line.add(p.number);
                }
            }
            for (Ticket t : tickets) {
                if (kind == 1 && !t.forCopy && places.get(t.box) != 3
                        || kind == 2 && t.forCopy && places.get(t.box) == 5) {
                    line.add(t.reader);
                }
            }
            return line;
        }

        int[] about(Person p) {
            return new int[] {p.state, p.desk, p.done, p.has.size(), p.state == 3 ? p.reading : 0,
                p.waited[1], p.waited[2], p.waited[4], p.overtaken, p.copies, p.rules.size(), -1};
        }

        int[] counts() {
            int home = 0;
            for (int place : places) {
                home += place == 0 ? 1 : 0;
            }
            int[] most = new int[9];
            boolean quiet = home == boxes.size();
            for (Person p : persons) {
                quiet &= away(p);
                for (int i = 0; i < 9; i++) {
                    most[i] = Math.max(most[i], p.waited[i]);
                }
            }
            return new int[] {turn, desks.size(), boxes.size(), persons.size(), Math.min(400, events.size()), home,
                quiet ? 1 : 0, most[1], most[2], most[4], made, ways, bell, mishaps.size(), row(), -1};
        }
    }

    // ---- the two side by side ----

    private interface Call {
        int on(FondsRoom room);
    }

    private FondsRoom x = new FondsRoom();
    private int callsOnIt = 0;
    private final List<Call> history = new ArrayList<>();
    private final Model m = new Model();
    private final Random random;
    private final StringBuilder told = new StringBuilder("new FondsRoom()");
    private boolean wrong = false;
    private int seenEvents = 0;

    private FondsRoomAgainstModel(long seed) {
        random = new Random(seed);
    }

    /** What an object answers behind its 512th call is free: then the run so far is told to a new one. */
    private FondsRoom room() {
        if (callsOnIt == MOST_CALLS) {
            x = new FondsRoom();
            callsOnIt = history.size();
            for (Call call : history) {
                call.on(x);
            }
        }
        callsOnIt++;
        return x;
    }

    private int tell(Call call) {
        FondsRoom room = room();
        history.add(call);
        return call.on(room);
    }

    private void same(String call, int got, int want) {
        if (got != want && !wrong) {
            wrong = true;
            System.out.println(told + "; " + call + " answered " + got + ", due is " + want);
        }
    }

    private int draw(int least, int most) {
        return least + random.nextInt(most - least + 1);
    }

    /** Mostly one that is, now and then one that isn't. */
    private int drawOf(int count) {
        return count == 0 || random.nextInt(25) == 0 ? draw(-1, count) : random.nextInt(count);
    }

    private void say(String name, int... numbers) {
        told.append("; ").append(name);
        for (int n : numbers) {
            told.append(' ').append(n);
        }
    }

    private void furnish() {
        if (random.nextInt(8) > 0) {
            int f = draw(1, 4);
            int c = draw(1, 3);
            int w = draw(1, random.nextBoolean() ? 2 : 5);
            callPeople(f, c, w);
        }
        // A full room now and then, where every row is used to its end.
        boolean full = random.nextInt(15) == 0;
        int desks = full ? 13 : draw(0, 6);
        for (int i = 0; i < desks; i++) {
            callDesk(random.nextInt(3) == 0);
        }
        int boxes = full ? 41 : draw(0, 9);
        int fonds = draw(0, 9);
        for (int i = 0; i < boxes; i++) {
            callBox(draw(0, fonds), random.nextInt(5) == 0);
        }
        int readers = full ? 21 : draw(0, 10);
        for (int i = 0; i < readers; i++) {
            callReader();
            int steps = full ? draw(4, 17) : draw(0, 6);
            for (int s = 0; s < steps; s++) {
                callStep(i);
            }
        }
    }

    private void callPeople(int f, int c, int w) {
        say("people", f, c, w);
        boolean fine = f >= 1 && f <= 4 && c >= 1 && c <= 3 && w >= 1 && w <= 5 && m.turn == 0;
        same("it", tell(room -> room.people(f, c, w) ? 1 : 0), fine ? 1 : 0);
        if (fine) {
            m.fetchers = Model.hands(f);
            m.copyists = Model.hands(c);
            m.way = w;
        }
    }

    private void callDesk(boolean watched) {
        say("desk", watched ? 1 : 0);
        boolean fine = m.turn == 0 && m.desks.size() < 12;
        same("it", tell(room -> room.desk(watched)), fine ? m.desks.size() : -1);
        if (fine) {
            m.desks.add(watched);
        }
    }

    private void callBox(int fonds, boolean precious) {
        say("box", fonds, precious ? 1 : 0);
        boolean fine = m.turn == 0 && m.boxes.size() < 40 && fonds >= 0 && fonds <= 9;
        same("it", tell(room -> room.box(fonds, precious)), fine ? m.boxes.size() : -1);
        if (fine) {
            m.boxes.add(new int[] {fonds, precious ? 1 : 0});
            m.places.add(0);
        }
    }

    private void callReader() {
        int arrival = random.nextInt(30) == 0 ? draw(-1, 1002) : draw(1, 12);
        int rank = random.nextInt(30) == 0 ? draw(-1, 4) : draw(0, 3);
        boolean watched = random.nextInt(4) == 0;
        say("reader", arrival, rank, watched ? 1 : 0);
        boolean fine = arrival >= 1 && arrival <= 1000 && rank >= 0 && rank <= 3 && m.persons.size() < 20
            && (m.bell == -1 || m.turn < m.bell);
        same("it", tell(room -> room.reader(arrival, rank, watched)), fine ? m.persons.size() : -1);
        if (fine) {
            Person p = new Person();
            p.number = m.persons.size();
            p.arrival = arrival;
            p.rank = rank;
            p.watched = watched;
            m.persons.add(p);
        }
    }

    private int drawBoxFor(int r) {
        int box = drawOf(m.boxes.size());
        // Steps upon a box that an earlier one asked for are what makes rooms busy.
        if (r >= 0 && r < m.persons.size() && !m.persons.get(r).steps.isEmpty() && random.nextInt(4) > 0) {
            List<Step> steps = m.persons.get(r).steps;
            return steps.get(random.nextInt(steps.size())).box;
        }
        return box;
    }

    private void callStep(int r) {
        int box = drawBoxFor(r);
        int amount = random.nextInt(20) == 0 ? draw(-1, 52) : draw(1, 6);
        boolean urgent = random.nextInt(3) > 0;
        char kind = "aaaarcccbb".charAt(random.nextInt(10));
        say(String.valueOf(kind), r, box, amount, urgent ? 1 : 0);
        same("it", tell(room -> step(room, kind, r, box, amount, urgent) ? 1 : 0), m.addStep(r, kind, box, amount, urgent) ? 1 : 0);
    }

    private static boolean step(FondsRoom room, char kind, int r, int box, int amount, boolean urgent) {
        return kind == 'a' ? room.ask(r, box) : kind == 'r' ? room.read(r, amount)
            : kind == 'c' ? room.copy(r, box, amount, urgent) : room.back(r, box);
    }

    private void callMishap() {
        int turn = m.turn + draw(random.nextInt(10) == 0 ? -1 : 1, 5);
        int kind = random.nextInt(30) == 0 ? draw(-1, 3) : draw(0, 2);
        int many = kind == 0 ? m.persons.size() : kind == 1 ? m.fetchers.length : kind == 2 ? m.copyists.length : 0;
        int who = drawOf(many);
        say("mishap", turn, kind, who);
        boolean fine = turn > m.turn && who >= 0 && who < many && m.mishaps.size() < 30;
        same("it", tell(room -> room.mishap(turn, kind, who) ? 1 : 0), fine ? 1 : 0);
        if (fine) {
            m.mishaps.add(new int[] {turn, kind, who});
        }
    }

    private void callBell() {
        int turn = m.turn + draw(-1, 30);
        say("bell", turn);
        boolean fine = turn > m.turn && m.bell == -1;
        same("it", tell(room -> room.bell(turn) ? 1 : 0), fine ? 1 : 0);
        if (fine) {
            m.bell = turn;
        }
    }

    private void callRun() {
        int n = random.nextInt(60) == 0 ? draw(-1, 202) : random.nextInt(4) == 0 ? draw(0, 9) : 1;
        say("run", n);
        boolean fine = n >= 0 && n <= 200;
        for (int i = 0; fine && i < n; i++) {
            m.pass();
        }
        same("it", tell(room -> room.run(n)), fine ? m.turn : -1);
    }

    private void compareReaders() {
        for (int r = -1; r <= m.persons.size(); r++) {
            boolean is = r >= 0 && r < m.persons.size();
            int[] about = is ? m.about(m.persons.get(r)) : null;
            for (int what = 0; what < 12; what++) {
                same("about(" + r + ", " + what + ")", room().about(r, what), is ? about[what] : -1);
            }
            List<Integer> has = new ArrayList<>();
            List<Integer> rules = new ArrayList<>();
            if (is) {
                has.addAll(m.persons.get(r).has);
                has.sort(Comparator.naturalOrder());
                rules = m.persons.get(r).rules;
            }
            for (int i = -1; i < 5; i++) {
                same("held(" + r + ", " + i + ")", room().held(r, i), i >= 0 && i < has.size() ? has.get(i) : -1);
            }
            for (int i = -1; i < 17; i++) {
                same("refused(" + r + ", " + i + ")", room().refused(r, i), i >= 0 && i < rules.size() ? rules.get(i) : -1);
            }
        }
    }

    private void compareThings() {
        for (int b = -1; b <= m.boxes.size(); b++) {
            boolean is = b >= 0 && b < m.boxes.size();
            same("place(" + b + ")", room().place(b), is ? m.places.get(b) : -1);
            same("whose(" + b + ")", room().whose(b), is ? m.whose(b) : -1);
        }
        for (int d = -1; d <= m.desks.size(); d++) {
            same("seated(" + d + ")", room().seated(d), m.seated(d));
        }
        for (int kind = 0; kind < 4; kind++) {
            Hand[] hands = kind == 1 ? m.fetchers : kind == 2 ? m.copyists : new Hand[0];
            for (int who = -1; who < 5; who++) {
                boolean is = who >= 0 && who < hands.length;
                same("worker(" + kind + ", " + who + ", 0)", room().worker(kind, who, 0), is ? hands[who].box : -1);
                same("worker(" + kind + ", " + who + ", 1)", room().worker(kind, who, 1), is ? hands[who].left : -1);
                same("worker(" + kind + ", " + who + ", 2)", room().worker(kind, who, 2), -1);
            }
        }
    }

    private void compareRest() {
        for (int kind = -1; kind < 4; kind++) {
            List<Integer> line = m.queue(kind);
            boolean is = kind >= 0 && kind < 3;
            same("queue(" + kind + ", -1)", room().queue(kind, -1), is ? line.size() : -1);
            same("queue(" + kind + ", -2)", room().queue(kind, -2), -1);
            for (int i = 0; i <= line.size(); i++) {
                same("queue(" + kind + ", " + i + ")", room().queue(kind, i), i < line.size() ? line.get(i) : -1);
            }
        }
        int[] counts = m.counts();
        for (int what = 0; what < counts.length; what++) {
            same("count(" + what + ")", room().count(what), counts[what]);
        }
        int kept = Math.min(400, m.events.size());
        for (; seenEvents < kept; seenEvents++) {
            for (int what = 0; what < 4; what++) {
                same("event(" + seenEvents + ", " + what + ")", eventOf(seenEvents, what),
                    m.events.get(seenEvents)[what]);
            }
        }
        same("event(" + kept + ", 0)", eventOf(kept, 0), Integer.MIN_VALUE);
    }

    private int eventOf(int i, int what) {
        try {
            return room().event(i, what);
        } catch (NoSuchElementException e) {
            return Integer.MIN_VALUE;
        }
    }

    private boolean runWell() {
        furnish();
        for (int i = 0; i < CALLS && !wrong; i++) {
            int die = random.nextInt(100);
            if (die < 55) {
                callRun();
            } else if (die < 78) {
                callStep(drawOf(m.persons.size()));
            } else if (die < 92) {
                callMishap();
            } else if (die < 96) {
                callReader();
            } else if (die < 97) {
                callBell();
            } else if (die < 98) {
                callPeople(draw(0, 5), draw(0, 4), draw(0, 6));
            } else if (die < 99) {
                callDesk(random.nextBoolean());
            } else {
                callBox(draw(-1, 10), random.nextBoolean());
            }
            compareReaders();
            compareThings();
            compareRest();
        }
        return !wrong;
    }

    public static void main(String[] args) {
        int failed = 0;
        for (int seed = 0; seed < RUNS && failed < 5; seed++) {
            if (!new FondsRoomAgainstModel(seed).runWell()) {
                failed++;
                System.out.println("(the run of seed " + seed + ")");
            }
        }
        System.out.println((RUNS - failed) + " passed, " + failed + " failed");
        if (failed != 0) {
            System.exit(1);
        }
    }
}
