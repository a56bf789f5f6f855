import java.util.NoSuchElementException;

/** The reading room of an archive, turn by turn; the document's promises stand in DOC.md. */
public final class FondsRoom {
    public static final int NONE = -1;

    private static final int MAX_DESKS = 12;
    private static final int MAX_BOXES = 40;
    private static final int MAX_FONDS = 9;
    private static final int MAX_READERS = 20;
    private static final int MAX_ARRIVAL = 1000;
    private static final int MAX_RANK = 3;
    private static final int MAX_STEPS = 16;
    private static final int MAX_READ = 50;
    private static final int MAX_PAGES = 30;
    private static final int MAX_HELD = 3;
    private static final int MAX_FETCHERS = 4;
    private static final int MAX_COPYISTS = 3;
    private static final int MAX_WAY = 5;
    private static final int MAX_MISHAPS = 30;
    private static final int MAX_EVENTS = 400;
    private static final int MAX_RUN = 200;
    private static final int MAX_URGENT_ROW = 3;

    private static final int FIRST_FETCHERS = 2;
    private static final int FIRST_COPYISTS = 1;
    private static final int FIRST_WAY = 2;

    private static final int HOME = 0;
    private static final int AT_DESK = 1;
    private static final int LEFT = 2;
    private static final int TO_READER = 3;
    private static final int TO_HOME = 4;
    private static final int WAITS_FOR_COPY = 5;
    private static final int IS_COPIED = 6;

    private static final int NOT_COME = 0;
    private static final int WANTS_DESK = 1;
    private static final int WANTS_BOX = 2;
    private static final int READS = 3;
    private static final int WANTS_COPY = 4;
    private static final int GONE = 5;
    private static final int SENT_HOME = 6;
    private static final int HAD_MISHAP = 7;
    private static final int CAN_GO_ON = 8;

    private static final int ASK_STEP = 0;
    private static final int READ_STEP = 1;
    private static final int COPY_STEP = 2;
    private static final int BACK_STEP = 3;

    private static final int RULE_THREE_BOXES = 1;
    private static final int RULE_PRECIOUS = 2;
    private static final int RULE_HAS_IT = 3;
    private static final int RULE_FONDS_TAKEN = 4;
    private static final int RULE_HAS_IT_NOT = 5;

    private static final int EVENT_CAME = 1;
    private static final int EVENT_DESK = 2;
    private static final int EVENT_ASKS = 3;
    private static final int EVENT_REFUSED = 4;
    private static final int EVENT_HAS = 5;
    private static final int EVENT_COPY = 6;
    private static final int EVENT_BACK = 7;
    private static final int EVENT_AWAY = 8;
    private static final int EVENT_HOME = 9;

    private static final int OF_READER = 0;
    private static final int OF_FETCHER = 1;
    private static final int OF_COPYIST = 2;

    private static final int FOR_DESKS = 0;
    private static final int FOR_BOXES = 1;
    private static final int FOR_COPIES = 2;

    private final Desk[] desks;
    private final Box[] boxes;
    private final Reader[] readers;
    private final Staff fetchers;
    private final Staff copyists;
    private final Line deskLine;
    private final Line boxTickets;
    private final Line copyTickets;
    private final Mishaps mishaps;
    private final Events events;
    private int deskCount;
    private int boxCount;
    private int readerCount;
    private int way;
    private int turn;
    private int bellTurn;
    private int copiesMade;
    private int waysBegun;
    private int urgentRow;

    public FondsRoom() {
        desks = new Desk[MAX_DESKS];
        for (int i = 0; i < MAX_DESKS; i++) {
            desks[i] = new Desk(i);
        }
        boxes = new Box[MAX_BOXES];
        for (int i = 0; i < MAX_BOXES; i++) {
            boxes[i] = new Box(i);
        }
        readers = new Reader[MAX_READERS];
        for (int i = 0; i < MAX_READERS; i++) {
            readers[i] = new Reader(i);
        }
        fetchers = new Staff(MAX_FETCHERS, FIRST_FETCHERS);
        copyists = new Staff(MAX_COPYISTS, FIRST_COPYISTS);
        deskLine = new Line();
        boxTickets = new Line();
        copyTickets = new Line();
        mishaps = new Mishaps();
        events = new Events();
        way = FIRST_WAY;
        bellTurn = NONE;
    }

    // ---- what the room is made of ----

    public int desk(boolean watched) {
        if (turn > 0 || deskCount >= MAX_DESKS) {
            return NONE;
        }
        int number = deskCount;
        desks[number].watched = watched;
        deskCount = number + 1;
        return number;
    }

    public int box(int fonds, boolean precious) {
        if (turn > 0 || boxCount >= MAX_BOXES || !isWithin(fonds, 0, MAX_FONDS)) {
            return NONE;
        }
        int number = boxCount;
        boxes[number].fonds = fonds;
        boxes[number].precious = precious;
        boxCount = number + 1;
        return number;
    }

    public boolean people(int fetchers, int copyists, int way) {
        if (turn > 0 || !isWithin(fetchers, 1, MAX_FETCHERS)
                || !isWithin(copyists, 1, MAX_COPYISTS) || !isWithin(way, 1, MAX_WAY)) {
            return false;
        }
        this.fetchers.hired = fetchers;
        this.copyists.hired = copyists;
        this.way = way;
        return true;
    }

    public int reader(int arrival, int rank, boolean watched) {
        if (readerCount >= MAX_READERS || !isWithin(arrival, 1, MAX_ARRIVAL)
                || !isWithin(rank, 0, MAX_RANK) || bellHasBeen()) {
            return NONE;
        }
        int number = readerCount;
        Reader added = readers[number];
        added.arrival = arrival;
        added.rank = rank;
        added.needsWatched = watched;
        readerCount = number + 1;
        return number;
    }

    // ---- plans ----

    public boolean ask(int reader, int box) {
        return isBox(box) && addStep(reader, ASK_STEP, box, 0, false);
    }

    public boolean read(int reader, int turns) {
        return isWithin(turns, 1, MAX_READ) && addStep(reader, READ_STEP, NONE, turns, false);
    }

    public boolean copy(int reader, int box, int pages, boolean urgent) {
        return isBox(box) && isWithin(pages, 1, MAX_PAGES)
                && addStep(reader, COPY_STEP, box, pages, urgent);
    }

    public boolean back(int reader, int box) {
        return isBox(box) && addStep(reader, BACK_STEP, box, 0, false);
    }

    private boolean addStep(int reader, int kind, int box, int amount, boolean urgent) {
        if (!isReader(reader) || isAway(readers[reader])) {
            return false;
        }
        return readers[reader].plan.append(kind, box, amount, urgent);
    }

    // ---- what is told for later turns ----

    public boolean bell(int turn) {
        if (turn <= this.turn || bellTurn != NONE) {
            return false;
        }
        bellTurn = turn;
        return true;
    }

    public boolean mishap(int turn, int kind, int who) {
        if (turn <= this.turn || !isPerson(kind, who)) {
            return false;
        }
        return mishaps.append(turn, kind, who);
    }

    private boolean isPerson(int kind, int who) {
        switch (kind) {
            case OF_READER:
                return isReader(who);
            case OF_FETCHER:
                return fetchers.hasWorker(who);
            case OF_COPYIST:
                return copyists.hasWorker(who);
            default:
                return false;
        }
    }

    // ---- turns ----

    public int run(int n) {
        if (!isWithin(n, 0, MAX_RUN)) {
            return NONE;
        }
        for (int i = 0; i < n; i++) {
            passTurn();
        }
        return turn;
    }

    private void passTurn() {
        turn++;
        sufferMishaps();
        if (turn == bellTurn) {
            ringBell();
        }
        fetchersWalk();
        copyistsWork();
        readersRead();
        readersGoOn();
        readersCome();
        giveDesks();
        sendFetchers();
        beginCopies();
        countWaiting();
    }

    // ---- a. mishaps ----

    private void sufferMishaps() {
        for (int i = 0; i < mishaps.size; i++) {
            if (mishaps.turns[i] == turn) {
                suffer(mishaps.kinds[i], mishaps.whos[i]);
            }
        }
        mishaps.dropTurn(turn);
    }

    private void suffer(int kind, int who) {
        // people() may have told fewer since the mishap was told.
        if (!isPerson(kind, who)) {
            return;
        }
        if (kind == OF_READER) {
            if (isInRoom(readers[who])) {
                depart(readers[who], HAD_MISHAP);
            }
        } else if (kind == OF_FETCHER) {
            stopFetcher(fetchers.workers[who]);
        } else {
            stopCopyist(copyists.workers[who]);
        }
    }

    private void stopFetcher(Worker fetcher) {
        Box box = fetcher.box;
        if (box == null) {
            return;
        }
        box.place = box.place == TO_READER ? HOME : LEFT;
        fetcher.release();
    }

    private void stopCopyist(Worker copyist) {
        Box box = copyist.box;
        if (box == null) {
            return;
        }
        box.place = box.holder != null ? WAITS_FOR_COPY : LEFT;
        copyist.release();
    }

    // ---- b. the bell ----

    private void ringBell() {
        for (int i = 0; i < readerCount; i++) {
            if (!isAway(readers[i])) {
                depart(readers[i], SENT_HOME);
            }
        }
        for (int i = 0; i < fetchers.hired; i++) {
            Worker fetcher = fetchers.workers[i];
            if (fetcher.box != null && fetcher.box.place == TO_READER) {
                stopFetcher(fetcher);
            }
        }
    }

    // ---- c. fetchers on their ways ----

    private void fetchersWalk() {
        for (int i = 0; i < fetchers.hired; i++) {
            Worker fetcher = fetchers.workers[i];
            Box box = fetcher.box;
            if (box == null) {
                continue;
            }
            fetcher.left--;
            if (fetcher.left <= 0) {
                bring(box, fetcher.goal);
                fetcher.release();
            }
        }
    }

    /** A way without a goal is a way home. */
    private void bring(Box box, Reader goal) {
        if (goal == null) {
            box.place = HOME;
            events.keep(turn, NONE, EVENT_HOME, box.number);
        } else if (box.wanter == goal) {
            boxTickets.remove(goal);
            box.wanter = null;
            box.holder = goal;
            box.place = AT_DESK;
            goal.awaited = null;
            goal.state = CAN_GO_ON;
            events.keep(turn, goal.number, EVENT_HAS, box.number);
        } else {
            box.place = LEFT;
        }
    }

    // ---- d. copyists at work ----

    private void copyistsWork() {
        for (int i = 0; i < copyists.hired; i++) {
            Worker copyist = copyists.workers[i];
            Box box = copyist.box;
            if (box == null) {
                continue;
            }
            copyist.left--;
            if (copyist.left <= 0) {
                finishCopy(box);
                copyist.release();
            }
        }
    }

    private void finishCopy(Box box) {
        copiesMade++;
        Reader holder = box.holder;
        if (holder == null) {
            box.place = LEFT;
            return;
        }
        copyTickets.remove(holder);
        box.place = AT_DESK;
        holder.awaited = null;
        holder.state = CAN_GO_ON;
        holder.copies++;
        events.keep(turn, holder.number, EVENT_COPY, box.number);
    }

    // ---- e. readers that read ----

    private void readersRead() {
        for (int i = 0; i < readerCount; i++) {
            Reader reader = readers[i];
            if (reader.state != READS) {
                continue;
            }
            reader.readLeft--;
            if (reader.readLeft <= 0) {
                reader.state = CAN_GO_ON;
            }
        }
    }

    // ---- f. readers that go on ----

    private void readersGoOn() {
        for (int i = 0; i < readerCount; i++) {
            if (readers[i].state == CAN_GO_ON) {
                goOn(readers[i]);
            }
        }
    }

    private void goOn(Reader reader) {
        Plan plan = reader.plan;
        for (int i = plan.begun; i < plan.size && reader.state == CAN_GO_ON; i++) {
            plan.begun = i + 1;
            Box box = isBox(plan.boxes[i]) ? boxes[plan.boxes[i]] : null;
            // READ alone is told without a box.
            if (box == null) {
                reader.readLeft = plan.amounts[i];
                reader.state = READS;
            } else if (plan.kinds[i] == ASK_STEP) {
                askFor(reader, box);
            } else if (plan.kinds[i] == COPY_STEP) {
                orderCopy(reader, box, plan.amounts[i], plan.urgents[i]);
            } else {
                giveBack(reader, box);
            }
        }
        if (reader.state == CAN_GO_ON) {
            depart(reader, GONE);
        }
    }

    private void askFor(Reader reader, Box box) {
        events.keep(turn, reader.number, EVENT_ASKS, box.number);
        int rule = ruleAgainst(reader, box);
        if (rule != NONE) {
            refuse(reader, rule);
            return;
        }
        box.wanter = reader;
        reader.awaited = box;
        reader.state = WANTS_BOX;
        boxTickets.append(reader);
    }

    private int ruleAgainst(Reader reader, Box box) {
        if (heldBy(reader) >= MAX_HELD) {
            return RULE_THREE_BOXES;
        }
        if (box.precious && (reader.desk == null || !reader.desk.watched)) {
            return RULE_PRECIOUS;
        }
        if (box.holder == reader) {
            return RULE_HAS_IT;
        }
        if (isTakenByAnother(box.fonds, reader)) {
            return RULE_FONDS_TAKEN;
        }
        return NONE;
    }

    private boolean isTakenByAnother(int fonds, Reader reader) {
        for (int i = 0; i < boxCount; i++) {
            Box box = boxes[i];
            Reader owner = box.holder != null ? box.holder : box.wanter;
            if (box.fonds == fonds && owner != null && owner != reader) {
                return true;
            }
        }
        return false;
    }

    private void orderCopy(Reader reader, Box box, int pages, boolean urgent) {
        if (box.holder != reader) {
            refuse(reader, RULE_HAS_IT_NOT);
            return;
        }
        box.place = WAITS_FOR_COPY;
        reader.awaited = box;
        reader.copyPages = pages;
        reader.copyUrgent = urgent;
        reader.state = WANTS_COPY;
        copyTickets.append(reader);
    }

    private void giveBack(Reader reader, Box box) {
        if (box.holder != reader) {
            refuse(reader, RULE_HAS_IT_NOT);
            return;
        }
        box.holder = null;
        box.place = LEFT;
        events.keep(turn, reader.number, EVENT_BACK, box.number);
    }

    private void refuse(Reader reader, int rule) {
        reader.plan.noteRefusal(rule);
        events.keep(turn, reader.number, EVENT_REFUSED, rule);
    }

    // ---- leaving, by oneself or sent away ----

    private void depart(Reader reader, int state) {
        deskLine.remove(reader);
        dropTickets(reader);
        for (int i = 0; i < boxCount; i++) {
            Box box = boxes[i];
            if (box.holder == reader) {
                box.holder = null;
                // A copy that is begun goes on, for nobody.
                if (box.place != IS_COPIED) {
                    box.place = LEFT;
                }
            }
        }
        if (reader.desk != null) {
            reader.desk.sitter = null;
            reader.desk = null;
        }
        reader.state = state;
        events.keep(turn, reader.number, EVENT_AWAY, state);
    }

    private void dropTickets(Reader reader) {
        boxTickets.remove(reader);
        copyTickets.remove(reader);
        Box box = reader.awaited;
        if (box != null && box.wanter == reader) {
            box.wanter = null;
        }
        reader.awaited = null;
    }

    // ---- g. readers that come ----

    private void readersCome() {
        for (int i = 0; i < readerCount; i++) {
            Reader reader = readers[i];
            if (reader.state == NOT_COME && reader.arrival <= turn) {
                reader.state = WANTS_DESK;
                reader.cameTurn = turn;
                deskLine.insertByRank(reader);
                events.keep(turn, reader.number, EVENT_CAME, WANTS_DESK);
            }
        }
    }

    // ---- h. desks ----

    private void giveDesks() {
        int passed = 0;
        for (int i = 0; i < readerCount; i++) {
            Reader reader = deskLine.at(passed);
            if (reader == null) {
                return;
            }
            Desk desk = freeDeskFor(reader);
            if (desk == null) {
                passed++;
            } else {
                seat(reader, desk);
            }
        }
    }

    private Desk freeDeskFor(Reader reader) {
        Desk watched = firstFreeDesk(true);
        if (reader.needsWatched) {
            return watched;
        }
        Desk plain = firstFreeDesk(false);
        return plain != null ? plain : watched;
    }

    private Desk firstFreeDesk(boolean watched) {
        for (int i = 0; i < deskCount; i++) {
            if (desks[i].sitter == null && desks[i].watched == watched) {
                return desks[i];
            }
        }
        return null;
    }

    private void seat(Reader reader, Desk desk) {
        deskLine.remove(reader);
        desk.sitter = reader;
        reader.desk = desk;
        reader.state = CAN_GO_ON;
        for (int i = 0; i < deskLine.size; i++) {
            Reader waiting = deskLine.at(i);
            if (waiting != null && reader.cameBehind(waiting)) {
                waiting.overtaken++;
            }
        }
        events.keep(turn, reader.number, EVENT_DESK, desk.number);
    }

    // ---- i. new ways ----

    private void sendFetchers() {
        for (int i = 0; i < fetchers.hired; i++) {
            if (fetchers.workers[i].box == null) {
                sendFetcher(fetchers.workers[i]);
            }
        }
    }

    private void sendFetcher(Worker fetcher) {
        Box left = firstLeftBox();
        if (left != null) {
            left.place = TO_HOME;
            fetcher.begin(left, null, way);
            waysBegun++;
            return;
        }
        Reader asker = firstAskerOfHomeBox();
        if (asker != null && asker.awaited != null) {
            asker.awaited.place = TO_READER;
            fetcher.begin(asker.awaited, asker, way);
            waysBegun++;
        }
    }

    private Box firstLeftBox() {
        for (int i = 0; i < boxCount; i++) {
            if (boxes[i].place == LEFT) {
                return boxes[i];
            }
        }
        return null;
    }

    private Reader firstAskerOfHomeBox() {
        for (int i = 0; i < boxTickets.size; i++) {
            Reader asker = boxTickets.at(i);
            if (asker != null && asker.awaitsAt(HOME)) {
                return asker;
            }
        }
        return null;
    }

    // ---- j. new copies ----

    private void beginCopies() {
        for (int i = 0; i < copyists.hired; i++) {
            if (copyists.workers[i].box == null) {
                beginCopy(copyists.workers[i]);
            }
        }
    }

    private void beginCopy(Worker copyist) {
        Reader orderer = nextOrderer();
        if (orderer == null || orderer.awaited == null) {
            return;
        }
        orderer.awaited.place = IS_COPIED;
        copyist.begin(orderer.awaited, orderer, orderer.copyPages);
        urgentRow = orderer.copyUrgent ? Math.min(urgentRow + 1, MAX_URGENT_ROW) : 0;
    }

    private Reader nextOrderer() {
        Reader urgent = firstOrderer(true);
        Reader patient = firstOrderer(false);
        if (urgent == null || (urgentRow >= MAX_URGENT_ROW && patient != null)) {
            return patient;
        }
        return urgent;
    }

    private Reader firstOrderer(boolean urgent) {
        for (int i = 0; i < copyTickets.size; i++) {
            Reader orderer = copyTickets.at(i);
            if (orderer != null && orderer.awaitsAt(WAITS_FOR_COPY) && orderer.copyUrgent == urgent) {
                return orderer;
            }
        }
        return null;
    }

    // ---- the end of a turn ----

    private void countWaiting() {
        for (int i = 0; i < readerCount; i++) {
            Reader reader = readers[i];
            switch (reader.state) {
                case WANTS_DESK:
                    reader.waitedDesk++;
                    break;
                case WANTS_BOX:
                    reader.waitedBox++;
                    break;
                case WANTS_COPY:
                    reader.waitedCopy++;
                    break;
                default:
                    break;
            }
        }
    }

    // ---- answers about readers ----

    public int about(int reader, int what) {
        if (!isReader(reader)) {
            return NONE;
        }
        Reader asked = readers[reader];
        switch (what) {
            case 0:
                return asked.state;
            case 1:
                return asked.desk == null ? NONE : asked.desk.number;
            case 2:
                return asked.plan.begun;
            case 3:
                return heldBy(asked);
            case 4:
                return asked.state == READS ? asked.readLeft : 0;
            case 5:
                return asked.waitedDesk;
            case 6:
                return asked.waitedBox;
            case 7:
                return asked.waitedCopy;
            case 8:
                return asked.overtaken;
            case 9:
                return asked.copies;
            case 10:
                return asked.plan.refusals;
            default:
                return NONE;
        }
    }

    public int held(int reader, int i) {
        if (!isReader(reader) || i < 0) {
            return NONE;
        }
        int ahead = i;
        for (int b = 0; b < boxCount; b++) {
            if (boxes[b].holder == readers[reader]) {
                if (ahead == 0) {
                    return b;
                }
                ahead--;
            }
        }
        return NONE;
    }

    public int refused(int reader, int i) {
        if (!isReader(reader)) {
            return NONE;
        }
        return readers[reader].plan.refusalRule(i);
    }

    // ---- answers about boxes, desks, people at work ----

    public int place(int box) {
        return isBox(box) ? boxes[box].place : NONE;
    }

    public int whose(int box) {
        if (!isBox(box)) {
            return NONE;
        }
        Reader holder = boxes[box].holder;
        return numberOf(holder != null ? holder : boxes[box].wanter);
    }

    public int seated(int desk) {
        return isWithin(desk, 0, deskCount - 1) ? numberOf(desks[desk].sitter) : NONE;
    }

    public int worker(int kind, int who, int what) {
        if (kind == OF_READER || !isPerson(kind, who)) {
            return NONE;
        }
        Worker asked = kind == OF_FETCHER ? fetchers.workers[who] : copyists.workers[who];
        if (what == 0) {
            return asked.box == null ? NONE : asked.box.number;
        }
        return what == 1 ? asked.left : NONE;
    }

    // ---- answers about what waits ----

    public int queue(int kind, int i) {
        Line line = lineOf(kind);
        if (line == null || i < NONE) {
            return NONE;
        }
        int waiting = 0;
        for (int k = 0; k < line.size; k++) {
            Reader reader = line.at(k);
            if (reader != null && waitsStill(kind, reader)) {
                if (waiting == i) {
                    return reader.number;
                }
                waiting++;
            }
        }
        return i == NONE ? waiting : NONE;
    }

    private Line lineOf(int kind) {
        switch (kind) {
            case FOR_DESKS:
                return deskLine;
            case FOR_BOXES:
                return boxTickets;
            case FOR_COPIES:
                return copyTickets;
            default:
                return null;
        }
    }

    /** Tickets stay in line while they are served, so that a mishap finds them as they were. */
    private boolean waitsStill(int kind, Reader reader) {
        if (kind == FOR_BOXES) {
            return !reader.awaitsAt(TO_READER);
        }
        return kind != FOR_COPIES || reader.awaitsAt(WAITS_FOR_COPY);
    }

    // ---- events and counts ----

    public int event(int i, int what) throws NoSuchElementException {
        if (!events.hasEntry(i, what)) {
            throw new NoSuchElementException("no such event");
        }
        return events.entry(i, what);
    }

    public int count(int what) {
        switch (what) {
            case 0:
                return turn;
            case 1:
                return deskCount;
            case 2:
                return boxCount;
            case 3:
                return readerCount;
            case 4:
                return events.size;
            case 5:
                return boxesAtHome();
            case 6:
                return isQuiet() ? 1 : 0;
            case 7:
            case 8:
            case 9:
                return greatestWaited(what);
            case 10:
                return copiesMade;
            case 11:
                return waysBegun;
            case 12:
                return bellTurn;
            case 13:
                return mishaps.size;
            case 14:
                return urgentRow;
            default:
                return NONE;
        }
    }

    private int boxesAtHome() {
        int home = 0;
        for (int i = 0; i < boxCount; i++) {
            if (boxes[i].place == HOME) {
                home++;
            }
        }
        return home;
    }

    private boolean isQuiet() {
        for (int i = 0; i < readerCount; i++) {
            if (!isAway(readers[i])) {
                return false;
            }
        }
        return boxesAtHome() == boxCount;
    }

    private int greatestWaited(int what) {
        int greatest = 0;
        for (int i = 0; i < readerCount; i++) {
            Reader reader = readers[i];
            int waited = what == 7 ? reader.waitedDesk
                    : what == 8 ? reader.waitedBox : reader.waitedCopy;
            greatest = Math.max(greatest, waited);
        }
        return greatest;
    }

    // ---- small questions ----

    private static boolean isWithin(int value, int least, int greatest) {
        return value >= least && value <= greatest;
    }

    private boolean isReader(int number) {
        return number >= 0 && number < readerCount;
    }

    private boolean isBox(int number) {
        return number >= 0 && number < boxCount;
    }

    private boolean bellHasBeen() {
        return bellTurn != NONE && turn >= bellTurn;
    }

    private static boolean isAway(Reader reader) {
        return reader.state == GONE || reader.state == SENT_HOME || reader.state == HAD_MISHAP;
    }

    private static boolean isInRoom(Reader reader) {
        return reader.state != NOT_COME && !isAway(reader);
    }

    private static int numberOf(Reader reader) {
        return reader == null ? NONE : reader.number;
    }

    private int heldBy(Reader reader) {
        int held = 0;
        for (int i = 0; i < boxCount; i++) {
            if (boxes[i].holder == reader) {
                held++;
            }
        }
        return held;
    }

    private static final class Desk {
        final int number;
        boolean watched;
        Reader sitter;

        Desk(int number) {
            this.number = number;
        }
    }

    private static final class Box {
        final int number;
        int fonds;
        boolean precious;
        int place;
        /** The reader that has it. */
        Reader holder;
        /** The reader with a ticket for it: rule 4 lets there be one at most. */
        Reader wanter;

        Box(int number) {
            this.number = number;
        }
    }

    private static final class Reader {
        final int number;
        final Plan plan;
        int arrival;
        int rank;
        boolean needsWatched;
        int state;
        int cameTurn;
        Desk desk;
        /** The box that it waits for, itself or its copy. */
        Box awaited;
        int readLeft;
        int copyPages;
        boolean copyUrgent;
        int waitedDesk;
        int waitedBox;
        int waitedCopy;
        int overtaken;
        int copies;

        Reader(int number) {
            this.number = number;
            this.plan = new Plan();
        }

        boolean awaitsAt(int place) {
            return awaited != null && awaited.place == place;
        }

        boolean cameBehind(Reader other) {
            return cameTurn > other.cameTurn || (cameTurn == other.cameTurn && number > other.number);
        }

        boolean isServedBefore(Reader other) {
            if (rank != other.rank) {
                return rank > other.rank;
            }
            if (arrival != other.arrival) {
                return arrival < other.arrival;
            }
            return number < other.number;
        }
    }

    /** A reader's steps, how many of them are begun, and the rules for those that were refused. */
    private static final class Plan {
        final int[] kinds;
        final int[] boxes;
        final int[] amounts;
        final boolean[] urgents;
        final int[] rules;
        int size;
        int begun;
        int refusals;

        Plan() {
            kinds = new int[MAX_STEPS];
            boxes = new int[MAX_STEPS];
            amounts = new int[MAX_STEPS];
            urgents = new boolean[MAX_STEPS];
            rules = new int[MAX_STEPS];
        }

        boolean append(int kind, int box, int amount, boolean urgent) {
            if (size >= MAX_STEPS) {
                return false;
            }
            kinds[size] = kind;
            boxes[size] = box;
            amounts[size] = amount;
            urgents[size] = urgent;
            size++;
            return true;
        }

        void noteRefusal(int rule) {
            if (refusals < MAX_STEPS) {
                rules[refusals] = rule;
                refusals++;
            }
        }

        int refusalRule(int i) {
            return i >= 0 && i < refusals ? rules[i] : NONE;
        }
    }

    /** Readers one behind the other; none stands twice in the same line. */
    private static final class Line {
        final Reader[] places;
        int size;

        Line() {
            places = new Reader[MAX_READERS];
        }

        Reader at(int i) {
            return i >= 0 && i < size ? places[i] : null;
        }

        void append(Reader reader) {
            if (size < MAX_READERS) {
                places[size] = reader;
                size++;
            }
        }

        void insertByRank(Reader reader) {
            if (size >= MAX_READERS) {
                return;
            }
            int gap = size;
            while (gap > 0 && reader.isServedBefore(places[gap - 1])) {
                places[gap] = places[gap - 1];
                gap--;
            }
            places[gap] = reader;
            size++;
        }

        void remove(Reader reader) {
            int kept = 0;
            for (int i = 0; i < size; i++) {
                if (places[i] != reader) {
                    places[kept] = places[i];
                    kept++;
                }
            }
            size = kept;
        }
    }

    private static final class Worker {
        Box box;
        /** For whom the box is fetched or copied; none on a way home. */
        Reader goal;
        int left;

        void begin(Box box, Reader goal, int left) {
            this.box = box;
            this.goal = goal;
            this.left = left;
        }

        void release() {
            box = null;
            goal = null;
            left = 0;
        }
    }

    private static final class Staff {
        final Worker[] workers;
        int hired;

        Staff(int most, int hired) {
            int length = Math.max(most, 0);
            workers = new Worker[length];
            for (int i = 0; i < length; i++) {
                workers[i] = new Worker();
            }
            this.hired = hired;
        }

        boolean hasWorker(int who) {
            return who >= 0 && who < hired && who < workers.length;
        }
    }

    /** Mishaps of turns to come, as they were told. */
    private static final class Mishaps {
        final int[] turns;
        final int[] kinds;
        final int[] whos;
        int size;

        Mishaps() {
            turns = new int[MAX_MISHAPS];
            kinds = new int[MAX_MISHAPS];
            whos = new int[MAX_MISHAPS];
        }

        boolean append(int turn, int kind, int who) {
            if (size >= MAX_MISHAPS) {
                return false;
            }
            turns[size] = turn;
            kinds[size] = kind;
            whos[size] = who;
            size++;
            return true;
        }

        void dropTurn(int turn) {
            int kept = 0;
            for (int i = 0; i < size; i++) {
                if (turns[i] != turn) {
                    turns[kept] = turns[i];
                    kinds[kept] = kinds[i];
                    whos[kept] = whos[i];
                    kept++;
                }
            }
            size = kept;
        }
    }

    /** The first events; each has four entries, one behind the other. */
    private static final class Events {
        private static final int ENTRIES = 4;

        final int[] rows;
        int size;

        Events() {
            rows = new int[MAX_EVENTS * ENTRIES];
        }

        void keep(int turn, int reader, int what, int number) {
            if (size >= MAX_EVENTS) {
                return;
            }
            int first = size * ENTRIES;
            rows[first] = turn;
            rows[first + 1] = reader;
            rows[first + 2] = what;
            rows[first + 3] = number;
            size++;
        }

        boolean hasEntry(int i, int what) {
            return i >= 0 && i < size && what >= 0 && what < ENTRIES;
        }

        int entry(int i, int what) {
            return hasEntry(i, what) ? rows[i * ENTRIES + what] : NONE;
        }
    }
}
