/**
 * Replicas that agree on one number after the other, slot by slot, though messages are lost,
 * doubled and come in any order, and replicas go down and come again.
 *
 * This class holds the cluster and what its replicas say to one another; the classes inside hold
 * what one replica keeps and the messages that are in flight. All rows are made in constructors:
 * no call makes an object.
 */
public final class SlotPaxos {
    public static final int NONE = -1;

    private static final int LEAST_REPLICAS = 3;
    private static final int MOST_REPLICAS = 5;
    private static final int LEAST_KEPT = 1;
    private static final int MOST_KEPT = 32;
    private static final int MOST_WAITING = 8;
    private static final int MOST_IN_FLIGHT = 200;

    private static final int PREPARE = 1;
    private static final int PROMISE = 2;
    private static final int ACCEPT = 3;
    private static final int ACCEPTED = 4;
    private static final int CHOSEN = 5;
    private static final int ASK = 6;
    private static final int DENY = 7;
    private static final int STATE = 8;

    private static final int FOLLOWER = 0;
    private static final int CANDIDATE = 1;
    private static final int LEADER = 2;

    private final int size;
    private final int limit;
    private final Replica[] members;
    private final Flight flight;
    private final Message arrived;

    public SlotPaxos(int replicas, int kept) {
        size = Math.max(LEAST_REPLICAS, Math.min(MOST_REPLICAS, replicas));
        limit = Math.max(LEAST_KEPT, Math.min(MOST_KEPT, kept));
        members = new Replica[size];
        for (int id = 0; id < size; id++) {
            members[id] = new Replica(id, limit);
        }
        flight = new Flight();
        arrived = new Message();
    }

    public boolean request(int replica, int number) {
        Replica r = find(replica);
        if (r == null || !r.up || number < 1) {
            return false;
        }
        return r.line.add(number);
    }

    public int tick(int replica) {
        Replica r = find(replica);
        if (r == null || !r.up) {
            return NONE;
        }
        if (r.role == LEADER) {
            tickLeader(r);
        } else if (r.role == CANDIDATE) {
            sendPrepare(r);
        } else if (r.line.count > 0) {
            campaign(r);
        } else {
            ask(r, r.id + 1 < size ? r.id + 1 : 0);
        }
        return flight.count;
    }

    public int deliver(int i) {
        if (!flight.has(i)) {
            return NONE;
        }
        flight.read(i, arrived);
        // Taken out first, so that an answer finds its place when there were 200.
        flight.remove(i);
        Replica r = find(arrived.receiver);
        if (r != null && r.up) {
            arrive(r, arrived);
        }
        return arrived.kind;
    }

    public boolean lose(int i) {
        if (!flight.has(i)) {
            return false;
        }
        flight.remove(i);
        return true;
    }

    public boolean twice(int i) {
        return flight.repeat(i);
    }

    public boolean turn(int replica, boolean up) {
        Replica r = find(replica);
        if (r == null || r.up == up) {
            return false;
        }
        r.up = up;
        r.forget();
        return true;
    }

    public int replica(int replica, int what) {
        Replica r = find(replica);
        if (r == null) {
            return NONE;
        }
        switch (what) {
            case 0:
                return r.up ? 1 : 0;
            case 1:
                return r.log.index;
            case 2:
                return r.log.sum;
            case 3:
                return r.log.ahead();
            case 4:
                return r.promised;
            case 5:
                return r.hasAccepted() ? r.acceptedBallot : NONE;
            case 6:
                return r.acceptedNumber;
            default:
                return r.up ? r.passing(what) : NONE;
        }
    }

    public int slot(int replica, int slot) {
        Replica r = find(replica);
        return r == null ? 0 : r.log.numberOf(slot);
    }

    public int waiting(int replica, int i) {
        Replica r = find(replica);
        return r == null || !r.up ? 0 : r.line.at(i);
    }

    public int message(int i, int what) {
        return flight.cell(i, what);
    }

    public int look(int which) {
        switch (which) {
            case 0:
                return size;
            case 1:
                return limit;
            case 2:
                return flight.count;
            case 3:
                return flight.sent;
            case 4:
                return flight.refused;
            case 5:
                return greatestIndex();
            default:
                return NONE;
        }
    }

    private Replica find(int id) {
        return id >= 0 && id < size ? members[id] : null;
    }

    private int greatestIndex() {
        int greatest = 0;
        for (int id = 0; id < size; id++) {
            greatest = Math.max(greatest, members[id].log.index);
        }
        return greatest;
    }

    private boolean isMajority(int answers) {
        return 2 * Integer.bitCount(answers) > size;
    }

    // What a replica does of its own accord.

    private void tickLeader(Replica r) {
        if (r.proposed != 0) {
            sendAccept(r);
        } else {
            propose(r);
        }
    }

    private void campaign(Replica r) {
        r.becomeCandidate(nextBallot(r));
        sendPrepare(r);
    }

    /** The least ballot of its own above all it knows; that of replica 0 is never 0, which is above nothing. */
    private int nextBallot(Replica r) {
        int known = Math.max(r.promised, r.seen);
        int ballot = known - known % size + r.id;
        return ballot > known ? ballot : ballot + size;
    }

    private void propose(Replica r) {
        int first = r.line.at(0);
        if (first != 0) {
            proposeNumber(r, first);
        }
    }

    private void proposeNumber(Replica r, int number) {
        r.proposeAndAccept(number);
        sendAccept(r);
    }

    // What a replica does when a message comes.

    private void arrive(Replica r, Message m) {
        r.seen = Math.max(r.seen, m.ballot);
        switch (m.kind) {
            case PREPARE:
                onPrepare(r, m);
                break;
            case PROMISE:
                onPromise(r, m);
                break;
            case ACCEPT:
                onAccept(r, m);
                break;
            case ACCEPTED:
                onAccepted(r, m);
                break;
            case CHOSEN:
                onChosen(r, m);
                break;
            case ASK:
                onAsk(r, m);
                break;
            case DENY:
                onDeny(r, m);
                break;
            default:
                onState(r, m);
                break;
        }
    }

    private void onPrepare(Replica r, Message m) {
        if (m.slot <= r.log.index) {
            help(r, m.sender, m.slot);
        } else if (m.ballot >= r.promised) {
            r.promised = m.ballot;
            r.becomeFollower();
            sendPromise(r, m);
        } else {
            deny(r, m.sender);
        }
    }

    private void onPromise(Replica r, Message m) {
        boolean counts = r.role == CANDIDATE && r.ballot == m.ballot
                && r.isNext(m.slot) && !r.hasAnswer(m.sender);
        if (!counts) {
            return;
        }
        r.addAnswer(m.sender);
        r.keepGreatest(m.told, m.number);
        if (isMajority(r.answered)) {
            r.becomeLeader();
            if (r.greatestBallot != 0) {
                proposeNumber(r, r.greatestNumber);
            } else {
                propose(r);
            }
        }
    }

    private void onAccept(Replica r, Message m) {
        if (m.slot <= r.log.index) {
            help(r, m.sender, m.slot);
        } else if (!r.isNext(m.slot)) {
            ask(r, m.sender);
        } else if (m.ballot >= r.promised) {
            r.promised = m.ballot;
            if (r.role == CANDIDATE || r.ballot != m.ballot) {
                r.becomeFollower();
            }
            r.accept(m.ballot, m.number);
            flight.send(ACCEPTED, r.id, m.sender, m.ballot, m.slot, 0, 0);
        } else {
            deny(r, m.sender);
        }
    }

    private void onAccepted(Replica r, Message m) {
        boolean counts = r.role == LEADER && r.ballot == m.ballot && r.proposed != 0
                && r.isNext(m.slot) && !r.hasAnswer(m.sender);
        if (!counts) {
            return;
        }
        r.addAnswer(m.sender);
        if (isMajority(r.answered)) {
            int chosen = r.proposed;
            sendToAll(CHOSEN, r.id, 0, m.slot, chosen);
            r.learn(chosen);
            propose(r);
        }
    }

    private void onChosen(Replica r, Message m) {
        if (r.isNext(m.slot)) {
            r.learn(m.number);
        } else if (m.slot > r.log.index) {
            ask(r, m.sender);
        }
    }

    private void onAsk(Replica r, Message m) {
        if (m.slot <= r.log.index) {
            help(r, m.sender, m.slot);
        }
    }

    private void onDeny(Replica r, Message m) {
        if (r.role != FOLLOWER && r.ballot < m.ballot) {
            r.becomeFollower();
        }
    }

    private void onState(Replica r, Message m) {
        if (m.slot > r.log.index) {
            r.log.jump(m.slot, m.number);
            r.dropAccepted();
            r.becomeFollower();
        }
    }

    // What a replica sends.

    private void sendPrepare(Replica r) {
        sendToAll(PREPARE, r.id, r.ballot, r.log.index + 1, 0);
    }

    private void sendAccept(Replica r) {
        sendToAll(ACCEPT, r.id, r.ballot, r.log.index + 1, r.proposed);
    }

    private void sendPromise(Replica r, Message m) {
        boolean tells = r.isNext(m.slot) && r.hasAccepted();
        int number = tells ? r.acceptedNumber : 0;
        int told = tells ? r.acceptedBallot : 0;
        flight.send(PROMISE, r.id, m.sender, m.ballot, m.slot, number, told);
    }

    private void ask(Replica r, int receiver) {
        flight.send(ASK, r.id, receiver, 0, r.log.index + 1, 0, 0);
    }

    private void deny(Replica r, int receiver) {
        flight.send(DENY, r.id, receiver, r.promised, 0, 0, 0);
    }

    private void help(Replica r, int receiver, int slot) {
        if (r.log.keeps(slot)) {
            flight.send(CHOSEN, r.id, receiver, 0, slot, r.log.numberOf(slot), 0);
        } else {
            flight.send(STATE, r.id, receiver, 0, r.log.index, r.log.sum, 0);
        }
    }

    private void sendToAll(int kind, int sender, int ballot, int slot, int number) {
        for (int receiver = 0; receiver < size; receiver++) {
            if (receiver != sender) {
                flight.send(kind, sender, receiver, ballot, slot, number, 0);
            }
        }
    }

    /** One replica: what it keeps also when it is down, and what it knows only as long as it is up. */
    private static final class Replica {
        final int id;
        final Log log;
        final Line line;
        boolean up;
        int promised;
        /** 0 if nothing is accepted: no replica has the ballot 0. */
        int acceptedBallot;
        int acceptedNumber;
        int role;
        int ballot;
        int answered;
        /** 0 if nothing is proposed: numbers are 1 at least. */
        int proposed;
        int seen;
        /** Of what a candidate was told: 0 if that was nothing yet. */
        int greatestBallot;
        int greatestNumber;

        Replica(int id, int limit) {
            this.id = id;
            log = new Log(limit);
            line = new Line();
            up = true;
        }

        /** What is lost when it goes down, set as it is behind a restart. */
        void forget() {
            becomeFollower();
            seen = promised;
            line.count = 0;
        }

        void becomeFollower() {
            role = FOLLOWER;
            ballot = 0;
            answered = 0;
            proposed = 0;
        }

        void becomeCandidate(int own) {
            promised = own;
            role = CANDIDATE;
            ballot = own;
            answered = 1 << id;
            greatestBallot = acceptedBallot;
            greatestNumber = acceptedNumber;
        }

        void becomeLeader() {
            role = LEADER;
            answered = 0;
        }

        boolean isNext(int slot) {
            return slot == log.index + 1;
        }

        boolean hasAnswer(int sender) {
            return (answered & (1 << sender)) != 0;
        }

        void addAnswer(int sender) {
            answered |= 1 << sender;
        }

        void keepGreatest(int told, int number) {
            if (told > greatestBallot) {
                greatestBallot = told;
                greatestNumber = number;
            }
        }

        boolean hasAccepted() {
            return acceptedBallot != 0;
        }

        void accept(int ofBallot, int number) {
            acceptedBallot = ofBallot;
            acceptedNumber = number;
        }

        void dropAccepted() {
            acceptedBallot = 0;
            acceptedNumber = 0;
        }

        void proposeAndAccept(int number) {
            proposed = number;
            answered = 1 << id;
            accept(ballot, number);
        }

        void learn(int number) {
            log.append(number);
            dropAccepted();
            if (role == CANDIDATE) {
                becomeFollower();
            }
            proposed = 0;
            answered = 0;
            line.drop(number);
        }

        /** Of what it knows only as long as it is up. */
        int passing(int what) {
            switch (what) {
                case 7:
                    return role;
                case 8:
                    return ballot;
                case 9:
                    return answered;
                case 10:
                    return seen;
                case 11:
                    return line.count;
                case 12:
                    return proposed;
                default:
                    return NONE;
            }
        }
    }

    /** The slots that a replica has learned, and the numbers of the last of them. */
    private static final class Log {
        /** As long as the greatest limit, a power of two, so that a masked slot is always an index of the row. */
        private static final int MASK = MOST_KEPT - 1;

        final int limit;
        final int[] numbers;
        int index;
        int sum;
        int base;

        Log(int limit) {
            this.limit = limit;
            numbers = new int[MOST_KEPT];
        }

        /** The slot ahead of the first one whose number is kept. */
        int ahead() {
            return Math.max(base, index - limit);
        }

        boolean keeps(int slot) {
            return slot > ahead() && slot <= index;
        }

        int numberOf(int slot) {
            return keeps(slot) ? numbers[slot & MASK] : 0;
        }

        void append(int number) {
            index++;
            sum = 31 * sum + number;
            numbers[index & MASK] = number;
        }

        void jump(int toIndex, int toSum) {
            index = toIndex;
            sum = toSum;
            base = toIndex;
        }
    }

    /** The numbers that wait at a replica, in the order in which they came. */
    private static final class Line {
        final int[] numbers;
        int count;

        Line() {
            numbers = new int[MOST_WAITING];
        }

        boolean add(int number) {
            if (count >= MOST_WAITING) {
                return false;
            }
            numbers[count] = number;
            count++;
            return true;
        }

        int at(int i) {
            return i >= 0 && i < count ? numbers[i] : 0;
        }

        void drop(int number) {
            int stay = 0;
            for (int i = 0; i < count; i++) {
                if (numbers[i] != number) {
                    numbers[stay] = numbers[i];
                    stay++;
                }
            }
            count = stay;
        }
    }

    /** A message that has come. */
    private static final class Message {
        int kind;
        int sender;
        int receiver;
        int ballot;
        int slot;
        int number;
        /** The ballot of what a promise tells, 0 for none. */
        int told;
    }

    /** The messages in flight, in the order in which they were sent, side by side in one row. */
    private static final class Flight {
        private static final int WIDTH = 7;

        final int[] cells;
        int count;
        int sent;
        int refused;

        Flight() {
            cells = new int[MOST_IN_FLIGHT * WIDTH];
        }

        boolean has(int i) {
            return i >= 0 && i < count;
        }

        int cell(int i, int what) {
            return has(i) && what >= 0 && what < WIDTH ? cells[i * WIDTH + what] : NONE;
        }

        void send(int kind, int sender, int receiver, int ballot, int slot, int number, int told) {
            sent++;
            if (count >= MOST_IN_FLIGHT) {
                refused++;
                return;
            }
            int at = count * WIDTH;
            cells[at] = kind;
            cells[at + 1] = sender;
            cells[at + 2] = receiver;
            cells[at + 3] = ballot;
            cells[at + 4] = slot;
            cells[at + 5] = number;
            cells[at + 6] = told;
            count++;
        }

        void read(int i, Message m) {
            m.kind = cell(i, 0);
            m.sender = cell(i, 1);
            m.receiver = cell(i, 2);
            m.ballot = cell(i, 3);
            m.slot = cell(i, 4);
            m.number = cell(i, 5);
            m.told = cell(i, 6);
        }

        void remove(int i) {
            if (!has(i)) {
                return;
            }
            int rest = count - i - 1;
            System.arraycopy(cells, (i + 1) * WIDTH, cells, i * WIDTH, rest * WIDTH);
            count--;
        }

        boolean repeat(int i) {
            if (!has(i) || count >= MOST_IN_FLIGHT) {
                return false;
            }
            System.arraycopy(cells, i * WIDTH, cells, count * WIDTH, WIDTH);
            count++;
            return true;
        }
    }
}
