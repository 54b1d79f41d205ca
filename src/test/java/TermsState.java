import java.util.List;
import java.util.function.ToLongFunction;

/** The terms: the present attack, the finding, changes, the history, errors; and how long an object is used. */
final class TermsState {
    private static final int BAD = PathInterdiction.BAD, STATE = PathInterdiction.STATE, FULL = PathInterdiction.FULL;
    private static final int NONE = PathInterdiction.NONE, FAR = PathInterdiction.UNREACHABLE;

    private TermsState() {
    }

    static void tell(Section terms) {
        terms.says("There is a present attack, at first empty.", TermsState::emptyAtFirst);
        terms.says("Some calls find a set of edges, the finding, which is kept until the next call that finds one",
            TermsState::keptUntilTheNext);
        terms.says("as it was found, whatever is changed later", TermsState::asItWasFound);
        terms.says("Changes are the calls of addEdge(), removeEdge(), setEdge(), attack(), setAttack(), load() and clear() "
            + "that return no error.", TermsState::changes);
        terms.says("A history of at most 12 states is kept: each change records the state before it", TermsState::atMostTwelve);
        terms.says("and when one more is recorded, the oldest one is dropped", TermsState::oldestIsDropped);
        terms.says("undo() removes the latest one and restores it.", TermsState::undoRemoves);
        terms.says("A state consists of the edges and the present attack.", TermsState::stateConsistsOf);
        terms.says("BAD: an argument is out of range, or names something that does not exist.", TermsState::bad);
        terms.says("STATE: the call is not possible now, as the method says.", TermsState::state);
        terms.says("FULL: a limit would be exceeded.", TermsState::full);
        terms.says("If several errors apply, the one that comes first in this list is returned.", TermsState::firstOfSeveral);
        terms.says("NONE is no error; it means that there is no such thing, and is returned only if no error applies.",
            TermsState::noneIsNoError);
        terms.says("A call that returns an error changes nothing.", TermsState::errorsChangeNothing);
        constants(terms);
        headings(terms);
    }

    static void tellUse(Section what) {
        what.leaves("A workbench for the interdiction of shortest paths: an attacker delays or blocks edges of a directed "
            + "graph within a budget, and a traveler then takes a shortest path.", "the promises say it in full");
        what.says("An object is used for at most 512 calls after it has been made", TermsState::calls);
        what.leaves("what later calls answer is free.", "nothing is asked for");
    }

    private static void constants(Section terms) {
        terms.says("The constants: `BAD = -2, STATE = -3, FULL = -4`: Error codes.", due -> {
            due.is("BAD", BAD, -2);
            due.is("STATE", STATE, -3);
            due.is("FULL", FULL, -4);
        });
        terms.says("`NONE = -1`: There is no such thing.", due -> due.is("NONE", NONE, -1));
        terms.says("`UNREACHABLE = 9999`: The distance if there is no path.", due -> {
            due.is("UNREACHABLE", FAR, 9999);
            due.is("no path", Benches.fresh().distance(0, 1), FAR);
        });
        terms.says("`BLOCK = 100`: The delay of an edge that an attack blocks.", due -> {
            due.is("BLOCK", PathInterdiction.BLOCK, 100);
            due.is("an edge that an attack blocks", Texts.loaded("ab1+x:1").edge(0, 3), PathInterdiction.BLOCK);
        });
    }

    private static void headings(Section terms) {
        terms.leaves("Ahead of the calls `addEdge`, `removeEdge`, `setEdge`, `edge`, `clear`, `type`, `clearText`, `fault`, "
            + "`load` the interface says: ---- graph.", "a heading");
        terms.leaves("Ahead of the calls `attack`, `setAttack`, `distance`, `first`, `paths`, `pathLength`, `tight` the "
            + "interface says: ---- the present attack, paths.", "a heading");
        terms.says("Ahead of the calls `interdict`, `greedy`, `budgetFor`, `blockade`, `respond`, `interdictResponse`, "
            + "`fortify`, `finding`, `worth`, `neverHelps`, `expected`, `lost` the interface says: ---- attacks; all that "
            + "follow leave the present attack as it is", TermsState::leaveThePresentAttack);
        terms.says("and regard only what they are given", TermsState::regardOnlyWhatIsGiven);
        terms.leaves("Ahead of the calls `undo`, `count`, `digest` the interface says: ---- undo, counts, digest.", "a heading");
    }

    private static void emptyAtFirst(Due due) {
        PathInterdiction x = new PathInterdiction();
        due.is("attacked", x.count(1), 0);
        due.is("its cost", x.count(2), 0);
        for (int e = 0; e < 16; e++) {
            x.addEdge(0, 1, 1, 1, 1);
            due.is("edge " + e, x.edge(e, 5), 0);
        }
    }

    private static final List<ToLongFunction<PathInterdiction>> FINDERS = List.of(
        x -> x.interdict(0, 3, 5), x -> x.greedy(0, 3, 1), x -> x.budgetFor(0, 3, 7),
        x -> x.interdictResponse(0, 3, 4, 0), x -> x.fortify(0, 3, 2, 2));
    private static final int[] FOUND = {6, 1, 5, 5, 3};

    private static void keptUntilTheNext(Due due) {
        for (int i = 0; i < FINDERS.size(); i++) {
            for (int j = 0; j < FINDERS.size(); j++) {
                PathInterdiction x = Texts.loaded(Benches.DIAMOND);
                FINDERS.get(i).applyAsLong(x);
                due.is("finder " + i, x.finding(), FOUND[i]);
                x.blockade(0, 3);
                x.respond(0, 3, 1, 1);
                x.worth(0, 3, 0);
                x.neverHelps(0, 3, 5);
                x.expected(0, 3, 1, 1);
                x.lost(0, 3, 1, 1);
                x.tight(0, 3);
                x.digest();
                x.budgetFor(0, 0, 1);
                due.is("kept behind other calls", x.finding(), FOUND[i]);
                FINDERS.get(j).applyAsLong(x);
                due.is("finder " + j + " after finder " + i, x.finding(), FOUND[j]);
            }
        }
    }

    private static void asItWasFound(Due due) {
        PathInterdiction x = Texts.loaded(Benches.DIAMOND);
        x.interdict(0, 3, 5);
        x.addEdge(0, 1, 1, 1, 1);
        x.setEdge(1, 4, 9);
        x.setAttack(31);
        x.attack(0, false);
        due.is("after additions", x.finding(), 6);
        x.removeEdge(1);
        due.is("one of its edges is removed", x.finding(), 6);
        x.removeEdge(0);
        due.is("one below is removed", x.finding(), 6);
        x.load();
        due.is("after load()", x.finding(), 6);
        x.clear();
        due.is("no edges at all", x.finding(), 6);
        x.undo();
        x.undo();
        due.is("after undo()", x.finding(), 6);
        x.type('a');
        x.clearText();
        due.is("after clearText()", x.finding(), 6);
        due.is("in no graph does the set exist", Benches.fresh().setAttack(6), BAD);
    }

    private static void changes(Due due) {
        PathInterdiction x = new PathInterdiction();
        int states = 0;
        x.addEdge(0, 1, 1, 1, 1);
        due.is("addEdge", x.count(3), ++states);
        x.setEdge(0, 2, 2);
        due.is("setEdge", x.count(3), ++states);
        x.attack(0, true);
        due.is("attack", x.count(3), ++states);
        x.setAttack(0);
        due.is("setAttack", x.count(3), ++states);
        x.removeEdge(0);
        due.is("removeEdge", x.count(3), ++states);
        x.load();
        due.is("load", x.count(3), ++states);
        x.clear();
        due.is("clear", x.count(3), ++states);
        x.addEdge(0, 0, 1, 1, 1);
        x.setEdge(0, 2, 2);
        x.attack(0, true);
        x.setAttack(1);
        x.removeEdge(0);
        x.type('a');
        x.load();
        x.clearText();
        due.is("errors, type and clearText", x.count(3), states);
    }

    private static void atMostTwelve(Due due) {
        PathInterdiction x = Texts.loaded("ab0+1:1");
        for (int i = 1; i <= 40; i++) {
            x.setEdge(0, 2, i);
            due.is("after " + (i + 1) + " changes", x.count(3), Math.min(12, i + 1));
        }
        for (int left = 11; left >= 0; left--) {
            due.is("undo()", x.undo(), left);
            due.is("the state before", x.edge(0, 2), 28 + left);
        }
        due.is("no 13th", x.undo(), STATE);
        due.is("the state stays", x.edge(0, 2), 28);
    }

    private static void oldestIsDropped(Due due) {
        for (int changes = 11; changes <= 26; changes++) {
            PathInterdiction x = new PathInterdiction();
            x.addEdge(0, 1, 0, 1, 1);
            for (int i = 1; i < changes; i++) {
                x.setEdge(0, 2, i);
            }
            int undone = 0;
            while (undone < 20 && x.undo() != STATE) {
                undone++;
            }
            due.is(changes + " changes: undone", undone, Math.min(12, changes));
            due.is(changes + " changes: edges then", x.count(0), changes <= 12 ? 0 : 1);
            due.is(changes + " changes: the length then", x.edge(0, 2), changes <= 12 ? BAD : changes - 13);
        }
    }

    private static void undoRemoves(Due due) {
        // Down, up and down again across the limit, so that the places of the history are used in turn.
        PathInterdiction x = Texts.loaded("ab0+1:1");
        for (int i = 1; i <= 30; i++) {
            x.setEdge(0, 2, i);
        }
        for (int round = 0; round < 5; round++) {
            for (int i = 0; i < 7; i++) {
                due.is("down", x.undo(), 11 - i);
                due.is("the length", x.edge(0, 2), 29 - i);
            }
            for (int i = 24; i <= 30; i++) {
                due.is("up", x.setEdge(0, 2, i), i - 1);
            }
            due.is("twelve again", x.count(3), 12);
        }
    }

    private static void stateConsistsOf(Due due) {
        PathInterdiction x = Benches.full();
        x.setEdge(15, 2, 0);
        x.setAttack(0);
        x.interdict(0, 1, 0);
        x.clearText();
        x.type('a');
        x.undo();
        due.is("the attack", x.count(1), Integer.bitCount(Benches.FULL_ATTACK));
        x.undo();
        due.is("the edges", x.edge(15, 2), 99);
        due.is("not the finding", x.finding(), 0);
        due.is("not the text", x.count(4), 1);
    }

    private static void bad(Due due) {
        Ask.refuses(due, "node 8 is out of range", BAD, Benches::full, x -> x.distance(8, 0));
        Ask.refuses(due, "edge 5 of five does not exist", BAD, Benches::some, x -> x.removeEdge(5));
    }

    private static void state(Due due) {
        Ask.refuses(due, "undo()", STATE, Benches::fresh, PathInterdiction::undo);
        Ask.refuses(due, "load()", STATE, Benches::some, PathInterdiction::load);
        Ask.refuses(due, "attack on", STATE, Benches::some, x -> x.attack(0, true));
        Ask.refuses(due, "attack off", STATE, Benches::some, x -> x.attack(1, false));
    }

    private static void full(Due due) {
        Ask.refuses(due, "addEdge", FULL, Benches::full, x -> x.addEdge(0, 1, 1, 1, 1));
        Ask.refuses(due, "type", FULL, Benches::full, x -> x.type('a'));
    }

    private static void firstOfSeveral(Due due) {
        Ask.refuses(due, "addEdge: BAD and FULL", BAD, Benches::full, x -> x.addEdge(0, 1, 1, 1, 0));
        Ask.refuses(due, "type: BAD and FULL", BAD, Benches::full, x -> x.type(128));
        Ask.refuses(due, "attack: BAD and STATE", BAD, Benches::full, x -> x.attack(16, false));
        Ask.refuses(due, "attack: BAD and STATE, no edges", BAD, Benches::fresh, x -> x.attack(0, false));
    }

    private static void noneIsNoError(Due due) {
        PathInterdiction x = Benches.fresh();
        due.is("finding", x.finding(), NONE);
        due.is("fault", x.fault(), NONE);
        due.is("first", x.first(0, 1, 0), NONE);
        due.is("first, but BAD", x.first(0, 1, -2), BAD);
        due.is("pathLength", x.pathLength(0, 1, 99), NONE);
        due.is("pathLength, but BAD", x.pathLength(0, 1, 100), BAD);
        due.is("budgetFor", x.budgetFor(0, 0, FAR), NONE);
        due.is("budgetFor, but BAD", x.budgetFor(0, 0, FAR + 1), BAD);
        due.is("blockade", x.blockade(0, 0), NONE);
        due.is("blockade, but BAD", x.blockade(8, 8), BAD);
        Ask.sameInAll(due, "behind NONE", x, Benches.fresh());
    }

    private static void errorsChangeNothing(Due due) {
        List<ToLongFunction<PathInterdiction>> wrong = List.of(
            x -> x.addEdge(0, 0, 1, 1, 1), x -> x.removeEdge(16), x -> x.setEdge(0, 2, 100), x -> x.edge(0, 6),
            x -> x.type(128), x -> x.attack(16, true), x -> x.setAttack(0x10000), x -> x.distance(0, 8),
            x -> x.first(0, 0, -2), x -> x.paths(0, 0, -1), x -> x.pathLength(0, 0, 100), x -> x.tight(8, 0),
            x -> x.interdict(0, 1, 6), x -> x.greedy(0, 1, 21), x -> x.budgetFor(0, 1, 10000), x -> x.blockade(0, 8),
            x -> x.respond(0, 1, 0, 4), x -> x.interdictResponse(0, 1, 5, 4), x -> x.fortify(0, 1, 3, 3),
            x -> x.worth(0, 1, 16), x -> x.neverHelps(0, 1, 6), x -> x.expected(0, 1, 0, 13), x -> x.lost(0, 1, 0, 13),
            x -> x.count(7));
        for (int i = 0; i < wrong.size(); i++) {
            Ask.isBad(due, "wrong call " + i, wrong.get(i));
        }
        PathInterdiction x = Benches.full();
        for (ToLongFunction<PathInterdiction> call : wrong) {
            call.applyAsLong(x);
        }
        x.addEdge(0, 1, 1, 1, 1);
        x.type('a');
        Ask.sameInAll(due, "behind all of them", x, Benches.full());
    }

    private static void leaveThePresentAttack(Due due) {
        Ask.finder(due, x -> {
            long sum = x.greedy(0, 3, 20) + x.budgetFor(0, 3, 0) + x.blockade(0, 3) + x.respond(0, 3, 0, 3);
            sum += x.interdictResponse(0, 3, 5, 3) + x.fortify(0, 3, 3, 2) + x.neverHelps(0, 3, 5);
            return sum + x.expected(0, 3, 0, 5) + x.lost(0, 3, 0, 5) + x.worth(0, 3, 0) + x.interdict(0, 3, 5);
        });
    }

    private static void regardOnlyWhatIsGiven(Due due) {
        for (int attack = 0; attack < 32; attack++) {
            PathInterdiction x = Texts.loaded(Benches.DIAMOND);
            x.setAttack(attack);
            String under = "under " + attack + ": ";
            Ask.finds(due, x, under + "interdict", x.interdict(0, 3, 5), 9, 6);
            Ask.finds(due, x, under + "greedy", x.greedy(0, 3, 1), 6, 1);
            Ask.finds(due, x, under + "budgetFor", x.budgetFor(0, 3, 7), 4, 5);
            Ask.finds(due, x, under + "interdictResponse", x.interdictResponse(0, 3, 5, 1), 6, 3);
            Ask.finds(due, x, under + "fortify", x.fortify(0, 3, 2, 2), 5, 3);
            due.is(under + "blockade", x.blockade(1, 3), 2);
            due.is(under + "respond", x.respond(0, 3, 0, 0), 5);
            due.is(under + "neverHelps", x.neverHelps(0, 3, 1), 30);
            due.is(under + "expected", x.expected(0, 3, 1, 12), 72);
            due.is(under + "lost", x.lost(1, 3, 2, 12), 12);
            due.is(under + "the attack", x.count(1), Integer.bitCount(attack));
        }
    }

    /** The 512th call answers as well as the first one. */
    private static void calls(Due due) {
        PathInterdiction x = new PathInterdiction();
        x.addEdge(0, 1, 0, 1, 1);
        for (int call = 2; call <= 500; call++) {
            due.is("call " + call, x.setEdge(0, 2, call % 100), (call - 1) % 100 * (call == 2 ? 0 : 1));
        }
        for (int call = 501; call <= 512; call++) {
            due.is("call " + call, x.undo(), 512 - call);
        }
        PathInterdiction y = new PathInterdiction();
        for (int call = 1; call <= 512; call++) {
            boolean fits = call <= 110;
            due.is("type, call " + call, y.type(32), fits ? call : FULL);
        }
        PathInterdiction z = new PathInterdiction();
        for (int call = 1; call <= 512; call += 2) {
            due.is("clear(), call " + call, z.clear(), 0);
            due.is("undo(), call " + (call + 1), z.undo(), 0);
        }
    }
}
