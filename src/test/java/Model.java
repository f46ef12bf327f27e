import java.util.ArrayList;
import java.util.Comparator;
import java.util.List;

/** The document told once more with lists and objects, to compare the program with. */
final class Model {
    private static final int NONE = -1;

    private static final class Group {
        int players;
        int stay;
        int end;
        boolean gone;
        Copy copy;
        final List<Integer> tables = new ArrayList<>();
    }

    private static final class Title {
        int least;
        int most;
        int minutes;
        int[] full;
        final List<Rule> chiefs = new ArrayList<>();
        final List<Rule> rules = new ArrayList<>();
    }

    private static final class Rule {
        int test;
        int value;
        int ruling;
        final List<Rule> exceptions = new ArrayList<>();
    }

    private static final class Copy {
        Title title;
        int[] has;
        int state;
        final List<Loan> loans = new ArrayList<>();
    }

    private record Loan(Copy lender, int kind, int many) {
    }

    private record Row(int waste, int many, int first) {
    }

    private int now;
    private final List<Integer> seats = new ArrayList<>();
    private final List<Group> groups = new ArrayList<>();
    private final List<Title> titles = new ArrayList<>();
    private final List<Copy> copies = new ArrayList<>();

    int now() {
        return now;
    }

    int pass(int minutes) {
        argument(minutes >= 1 && minutes <= 500);
        state(now + minutes <= 20000);
        now += minutes;
        return now;
    }

    int addTable(int many) {
        argument(many >= 2 && many <= 6);
        state(seats.size() < 10);
        seats.add(many);
        return seats.size() - 1;
    }

    int addTitle(int least, int most, int minutes, int... full) {
        argument(least >= 1 && least <= 12 && most >= least && most <= 12 && minutes >= 5 && minutes <= 300);
        for (int many : full) {
            argument(many >= 0 && many <= 9);
        }
        state(titles.size() < 8);
        Title title = new Title();
        title.least = least;
        title.most = most;
        title.minutes = minutes;
        title.full = full.clone();
        titles.add(title);
        return titles.size() - 1;
    }

    int addCopy(int title) {
        index(title, titles.size());
        state(copies.size() < 16);
        Copy copy = new Copy();
        copy.title = titles.get(title);
        copy.has = copy.title.full.clone();
        copies.add(copy);
        return copies.size() - 1;
    }

    int addRule(int title, int parent, int test, int value, int ruling) {
        index(title, titles.size());
        Title of = titles.get(title);
        if (parent != NONE) {
            index(parent, of.rules.size());
        }
        argument(test >= 0 && test <= 3 && value >= 1 && value <= 300 && ruling >= 0 && ruling <= 99);
        state(of.rules.size() < 12);
        Rule rule = new Rule();
        rule.test = test;
        rule.value = value;
        rule.ruling = ruling;
        (parent == NONE ? of.chiefs : of.rules.get(parent).exceptions).add(rule);
        of.rules.add(rule);
        return of.rules.size() - 1;
    }

    int arrive(int players, int minutes) {
        argument(players >= 1 && players <= 12 && minutes >= 10 && minutes <= 600);
        state(groups.size() < 30);
        Group group = new Group();
        group.players = players;
        group.stay = minutes;
        groups.add(group);
        seat(group);
        return groups.size() - 1;
    }

    int leave(int group) {
        Group who = group(group);
        state(who.copy == null && !who.gone);
        who.gone = true;
        who.tables.clear();
        int seated = 0;
        for (Group other : groups) {
            if (!other.gone && other.tables.isEmpty() && seat(other)) {
                seated++;
            }
        }
        return seated;
    }

    private boolean seat(Group group) {
        List<Row> rows = rows(group.players);
        if (rows.isEmpty()) {
            return false;
        }
        for (int i = 0; i < rows.get(0).many; i++) {
            group.tables.add(rows.get(0).first + i);
        }
        group.end = now + group.stay;
        return true;
    }

    private List<Row> rows(int players) {
        List<Row> rows = new ArrayList<>();
        for (int first = 0; first < seats.size(); first++) {
            int sum = 0;
            for (int last = first; last < seats.size() && isFree(last); last++) {
                sum += seats.get(last);
                int many = last - first + 1;
                if (sum - (many - 1) >= players) {
                    rows.add(new Row(sum - (many - 1) - players, many, first));
                }
            }
        }
        rows.sort(Comparator.comparingInt(Row::waste).thenComparingInt(Row::many).thenComparingInt(Row::first));
        return rows;
    }

    private boolean isFree(int table) {
        for (Group group : groups) {
            if (group.tables.contains(table)) {
                return false;
            }
        }
        return true;
    }

    int tableOf(int group) {
        return group(group).tables.isEmpty() ? NONE : group(group).tables.get(0);
    }

    int tablesOf(int group) {
        return group(group).tables.size();
    }

    int waiting() {
        int many = 0;
        for (Group group : groups) {
            many += !group.gone && group.tables.isEmpty() ? 1 : 0;
        }
        return many;
    }

    int waste(int players) {
        argument(players >= 1 && players <= 12);
        List<Row> rows = rows(players);
        return rows.isEmpty() ? NONE : rows.get(0).waste;
    }

    int left(int group) {
        Group who = group(group);
        state(!who.tables.isEmpty());
        return minutesLeft(who);
    }

    private int minutesLeft(Group group) {
        return group.end > now ? group.end - now : 0;
    }

    int offers(int group) {
        return offered(group(group)).size();
    }

    int offerAt(int group, int place) {
        List<Title> offered = offered(group(group));
        index(place, offered.size());
        return titles.indexOf(offered.get(place));
    }

    private List<Title> offered(Group group) {
        List<Title> offered = new ArrayList<>();
        for (Title title : titles) {
            boolean fits = !group.tables.isEmpty() && group.copy == null && group.players >= title.least
                && group.players <= title.most && minutesLeft(group) >= title.minutes;
            if (fits && best(title) != null) {
                offered.add(title);
            }
        }
        offered.sort(Comparator.comparingInt((Title title) -> -title.minutes));
        return offered;
    }

    private Copy best(Title title) {
        Copy best = null;
        for (Copy copy : copies) {
            if (copy.title == title && copy.state == 0 && plan(copy) != null
                    && (best == null || lendersIn(plan(copy)) < lendersIn(plan(best)))) {
                best = copy;
            }
        }
        return best;
    }

    private List<Loan> plan(Copy copy) {
        List<Loan> plan = new ArrayList<>();
        for (int kind = 0; kind < 4; kind++) {
            int lack = copy.title.full[kind] - copy.has[kind];
            for (Copy other : copies) {
                if (other != copy && other.title == copy.title && other.state == 0) {
                    int many = lack < other.has[kind] ? lack : other.has[kind];
                    if (many > 0) {
                        plan.add(new Loan(other, kind, many));
                        lack -= many;
                    }
                }
            }
            if (lack > 0) {
                return null;
            }
        }
        return plan;
    }

    private static int lendersIn(List<Loan> plan) {
        List<Copy> lenders = new ArrayList<>();
        for (Loan loan : plan) {
            if (!lenders.contains(loan.lender)) {
                lenders.add(loan.lender);
            }
        }
        return lenders.size();
    }

    int serve(int group, int title) {
        Group who = group(group);
        index(title, titles.size());
        state(offered(who).contains(titles.get(title)));
        Copy copy = best(titles.get(title));
        copy.loans.addAll(plan(copy));
        for (Loan loan : copy.loans) {
            loan.lender.has[loan.kind] -= loan.many;
            copy.has[loan.kind] += loan.many;
            loan.lender.state = 2;
        }
        copy.state = 1;
        who.copy = copy;
        return copies.indexOf(copy);
    }

    int giveBack(int group, int kind, int lost) {
        Group who = group(group);
        index(kind, 4);
        argument(lost >= 0 && lost <= 9);
        state(who.copy != null && who.copy.has[kind] >= lost);
        Copy copy = who.copy;
        copy.has[kind] -= lost;
        int closed = copy.loans.size();
        while (!copy.loans.isEmpty()) {
            Loan loan = copy.loans.remove(copy.loans.size() - 1);
            int back = loan.many < copy.has[loan.kind] ? loan.many : copy.has[loan.kind];
            copy.has[loan.kind] -= back;
            loan.lender.has[loan.kind] += back;
            loan.lender.state = 0;
        }
        copy.state = 0;
        who.copy = null;
        return closed;
    }

    int found(int copy, int kind, int many) {
        index(copy, copies.size());
        index(kind, 4);
        argument(many >= 1 && many <= 9);
        Copy into = copies.get(copy);
        state(into.state == 0 && into.has[kind] + many <= into.title.full[kind]);
        into.has[kind] += many;
        return into.has[kind];
    }

    int pieces(int copy, int kind) {
        index(copy, copies.size());
        index(kind, 4);
        return copies.get(copy).has[kind];
    }

    int stateOf(int copy) {
        index(copy, copies.size());
        return copies.get(copy).state;
    }

    int lenders(int copy) {
        index(copy, copies.size());
        Copy of = copies.get(copy);
        return of.state != 0 || plan(of) == null ? NONE : lendersIn(plan(of));
    }

    int copyOf(int group) {
        return copies.indexOf(group(group).copy);
    }

    int ruling(int group) {
        Group who = group(group);
        state(who.copy != null);
        for (Rule chief : who.copy.title.chiefs) {
            if (holds(chief, who)) {
                return told(chief, who);
            }
        }
        return NONE;
    }

    private int told(Rule rule, Group group) {
        for (Rule exception : rule.exceptions) {
            if (holds(exception, group)) {
                return told(exception, group);
            }
        }
        return rule.ruling;
    }

    private boolean holds(Rule rule, Group group) {
        int lent = 0;
        for (Loan loan : group.copy.loans) {
            lent += loan.many;
        }
        return rule.test == 0 && group.players >= rule.value
            || rule.test == 1 && minutesLeft(group) < rule.value
            || rule.test == 2 && group.players % rule.value == 0
            || rule.test == 3 && lent >= rule.value;
    }

    int depth(int title) {
        index(title, titles.size());
        return deepest(titles.get(title).chiefs);
    }

    private static int deepest(List<Rule> rules) {
        int deepest = 0;
        for (Rule rule : rules) {
            deepest = Math.max(deepest, 1 + deepest(rule.exceptions));
        }
        return deepest;
    }

    private Group group(int group) {
        index(group, groups.size());
        return groups.get(group);
    }

    private static void index(int index, int size) {
        if (index < 0 || index >= size) {
            throw new IndexOutOfBoundsException();
        }
    }

    private static void argument(boolean fits) {
        if (!fits) {
            throw new IllegalArgumentException();
        }
    }

    private static void state(boolean fits) {
        if (!fits) {
            throw new IllegalStateException();
        }
    }
}
