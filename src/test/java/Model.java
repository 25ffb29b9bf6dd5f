import java.util.ArrayList;
import java.util.HashSet;
import java.util.List;
import java.util.Set;
import java.util.TreeMap;

/**
 * The document's Terms once more, written as plainly as they can be, with maps, sets and lists:
 * what SlotPaxos answers is held against this.
 */
final class Model {
    enum Role { FOLLOWER, CANDIDATE, LEADER }

    record Mail(int kind, int from, int to, int ballot, int slot, int number, int told) { }

    record Vote(int ballot, int number) { }

    static final class Node {
        boolean up = true;
        int index;
        int sum;
        TreeMap<Integer, Integer> numbers = new TreeMap<>();
        int promised;
        Vote accepted;
        Role role = Role.FOLLOWER;
        int ballot;
        Set<Integer> answered = new HashSet<>();
        List<Vote> votes = new ArrayList<>();
        Integer proposed;
        int seen;
        List<Integer> waiting = new ArrayList<>();

        void follow() {
            role = Role.FOLLOWER;
            ballot = 0;
            answered.clear();
            votes.clear();
            proposed = null;
        }
    }

    final int n;
    final int kept;
    final List<Node> nodes = new ArrayList<>();
    final List<Mail> flight = new ArrayList<>();
    int sent;
    int overflow;

    Model(int replicas, int kept) {
        this.n = replicas < 3 ? 3 : replicas > 5 ? 5 : replicas;
        this.kept = kept < 1 ? 1 : kept > 32 ? 32 : kept;
        for (int i = 0; i < n; i++) {
            nodes.add(new Node());
        }
    }

    private boolean known(int r) {
        return r >= 0 && r < n;
    }

    private boolean running(int r) {
        return known(r) && nodes.get(r).up;
    }

    private boolean flying(int i) {
        return i >= 0 && i < flight.size();
    }

    private void post(Mail mail) {
        sent++;
        if (flight.size() == 200) {
            overflow++;
        } else {
            flight.add(mail);
        }
    }

    private void postAll(int kind, int from, int ballot, int slot, int number) {
        for (int to = 0; to < n; to++) {
            if (to != from) {
                post(new Mail(kind, from, to, ballot, slot, number, 0));
            }
        }
    }

    boolean request(int r, int number) {
        if (!running(r) || number < 1 || nodes.get(r).waiting.size() == 8) {
            return false;
        }
        nodes.get(r).waiting.add(number);
        return true;
    }

    int tick(int r) {
        if (!running(r)) {
            return -1;
        }
        Node a = nodes.get(r);
        if (a.role == Role.LEADER && a.proposed != null) {
            postAll(3, r, a.ballot, a.index + 1, a.proposed);
        } else if (a.role == Role.LEADER) {
            propose(r);
        } else if (a.role == Role.CANDIDATE) {
            postAll(1, r, a.ballot, a.index + 1, 0);
        } else if (!a.waiting.isEmpty()) {
            campaign(r);
        } else {
            post(new Mail(6, r, r == n - 1 ? 0 : r + 1, 0, a.index + 1, 0, 0));
        }
        return flight.size();
    }

    private void campaign(int r) {
        Node a = nodes.get(r);
        int b = 1;
        while (b % n != r || b <= a.promised || b <= a.seen) {
            b++;
        }
        a.promised = b;
        a.role = Role.CANDIDATE;
        a.ballot = b;
        a.answered.clear();
        a.answered.add(r);
        a.votes.clear();
        if (a.accepted != null) {
            a.votes.add(a.accepted);
        }
        postAll(1, r, b, a.index + 1, 0);
    }

    private void propose(int r) {
        Node a = nodes.get(r);
        if (!a.waiting.isEmpty()) {
            put(r, a.waiting.get(0));
        }
    }

    private void put(int r, int number) {
        Node a = nodes.get(r);
        a.proposed = number;
        a.accepted = new Vote(a.ballot, number);
        a.promised = a.ballot;
        a.answered.clear();
        a.answered.add(r);
        postAll(3, r, a.ballot, a.index + 1, number);
    }

    int deliver(int i) {
        if (!flying(i)) {
            return -1;
        }
        Mail m = flight.remove(i);
        if (running(m.to())) {
            come(m);
        }
        return m.kind();
    }

    private void come(Mail m) {
        Node a = nodes.get(m.to());
        a.seen = Math.max(a.seen, m.ballot());
        switch (m.kind()) {
            case 1 -> prepare(a, m);
            case 2 -> promise(a, m);
            case 3 -> accept(a, m);
            case 4 -> accepted(a, m);
            case 5 -> {
                if (m.slot() == a.index + 1) {
                    learn(a, m.number());
                } else if (m.slot() > a.index + 1) {
                    post(new Mail(6, m.to(), m.from(), 0, a.index + 1, 0, 0));
                }
            }
            case 6 -> {
                if (m.slot() <= a.index) {
                    help(a, m);
                }
            }
            case 7 -> {
                if (a.role != Role.FOLLOWER && a.ballot < m.ballot()) {
                    a.follow();
                }
            }
            case 8 -> {
                if (m.slot() > a.index) {
                    a.index = m.slot();
                    a.sum = m.number();
                    a.numbers.clear();
                    a.accepted = null;
                    a.follow();
                }
            }
            default -> throw new IllegalStateException("no such kind");
        }
    }

    private void prepare(Node a, Mail m) {
        if (m.slot() <= a.index) {
            help(a, m);
        } else if (m.ballot() < a.promised) {
            post(new Mail(7, m.to(), m.from(), a.promised, 0, 0, 0));
        } else {
            a.promised = m.ballot();
            a.follow();
            Vote told = m.slot() == a.index + 1 && a.accepted != null ? a.accepted : new Vote(0, 0);
            post(new Mail(2, m.to(), m.from(), m.ballot(), m.slot(), told.number(), told.ballot()));
        }
    }

    private void promise(Node a, Mail m) {
        if (a.role != Role.CANDIDATE || a.ballot != m.ballot() || m.slot() != a.index + 1
                || !a.answered.add(m.from())) {
            return;
        }
        if (m.told() > 0) {
            a.votes.add(new Vote(m.told(), m.number()));
        }
        if (a.answered.size() <= n / 2) {
            return;
        }
        Vote best = null;
        for (Vote vote : a.votes) {
            if (best == null || vote.ballot() > best.ballot()) {
                best = vote;
            }
        }
        a.role = Role.LEADER;
        a.answered.clear();
        if (best != null) {
            put(m.to(), best.number());
        } else {
            propose(m.to());
        }
    }

    private void accept(Node a, Mail m) {
        if (m.slot() <= a.index) {
            help(a, m);
        } else if (m.slot() > a.index + 1) {
            post(new Mail(6, m.to(), m.from(), 0, a.index + 1, 0, 0));
        } else if (m.ballot() < a.promised) {
            post(new Mail(7, m.to(), m.from(), a.promised, 0, 0, 0));
        } else {
            a.promised = m.ballot();
            if (a.role == Role.CANDIDATE || (a.role == Role.LEADER && a.ballot != m.ballot())) {
                a.follow();
            }
            a.accepted = new Vote(m.ballot(), m.number());
            post(new Mail(4, m.to(), m.from(), m.ballot(), m.slot(), 0, 0));
        }
    }

    private void accepted(Node a, Mail m) {
        if (a.role != Role.LEADER || a.ballot != m.ballot() || a.proposed == null || m.slot() != a.index + 1
                || !a.answered.add(m.from())) {
            return;
        }
        if (a.answered.size() > n / 2) {
            postAll(5, m.to(), 0, m.slot(), a.proposed);
            learn(a, a.proposed);
            propose(m.to());
        }
    }

    private void help(Node a, Mail m) {
        Integer number = a.numbers.get(m.slot());
        if (number != null) {
            post(new Mail(5, m.to(), m.from(), 0, m.slot(), number, 0));
        } else {
            post(new Mail(8, m.to(), m.from(), 0, a.index, a.sum, 0));
        }
    }

    private void learn(Node a, int number) {
        a.index++;
        a.sum = 31 * a.sum + number;
        a.numbers.put(a.index, number);
        if (a.numbers.size() > kept) {
            a.numbers.pollFirstEntry();
        }
        a.accepted = null;
        if (a.role == Role.CANDIDATE) {
            a.follow();
        } else {
            a.proposed = null;
            a.answered.clear();
        }
        a.waiting.removeIf(waits -> waits == number);
    }

    boolean lose(int i) {
        if (!flying(i)) {
            return false;
        }
        flight.remove(i);
        return true;
    }

    boolean twice(int i) {
        return flying(i) && flight.size() < 200 && flight.add(flight.get(i));
    }

    boolean turn(int r, boolean up) {
        if (!known(r) || nodes.get(r).up == up) {
            return false;
        }
        Node a = nodes.get(r);
        a.up = up;
        if (up) {
            a.follow();
            a.waiting.clear();
            a.seen = a.promised;
        }
        return true;
    }

    int replica(int r, int what) {
        if (!known(r) || what < 0 || what > 12 || (what > 6 && !nodes.get(r).up)) {
            return -1;
        }
        Node a = nodes.get(r);
        int answers = 0;
        for (int who : a.answered) {
            answers += 1 << who;
        }
        return new int[] {a.up ? 1 : 0, a.index, a.sum, a.numbers.isEmpty() ? a.index : a.numbers.firstKey() - 1,
            a.promised, a.accepted == null ? -1 : a.accepted.ballot(), a.accepted == null ? 0 : a.accepted.number(),
            a.role.ordinal(), a.ballot, answers, a.seen, a.waiting.size(), a.proposed == null ? 0 : a.proposed}[what];
    }

    int slot(int r, int slot) {
        return known(r) ? nodes.get(r).numbers.getOrDefault(slot, 0) : 0;
    }

    int waiting(int r, int i) {
        return running(r) && i >= 0 && i < nodes.get(r).waiting.size() ? nodes.get(r).waiting.get(i) : 0;
    }

    int message(int i, int what) {
        if (!flying(i) || what < 0 || what > 6) {
            return -1;
        }
        Mail m = flight.get(i);
        return new int[] {m.kind(), m.from(), m.to(), m.ballot(), m.slot(), m.number(), m.told()}[what];
    }

    int look(int which) {
        if (which < 0 || which > 5) {
            return -1;
        }
        int greatest = 0;
        for (Node a : nodes) {
            greatest = Math.max(greatest, a.index);
        }
        return new int[] {n, kept, flight.size(), sent, overflow, greatest}[which];
    }
}
