import java.util.LinkedHashMap;
import java.util.Map;
import java.util.function.Consumer;

/** The sentences on changes and exceptions that stand before the promises. */
final class ChangeSentences extends SentenceTests {
    private ChangeSentences() {
    }

    static void run() {
        whatIsAChange();
        nothingDiffers();
        oneChange();
        latestEight();
        whatIsLeft();
        everythingElse();
        exceptionsChangeNothing();
        firstException();
    }

    /** Baskets, clouds, a target and steps; three changes can be undone. */
    private static BasketFlock three() {
        BasketFlock flock = new BasketFlock();
        Flocks.run(flock, "add 0,0 0;add 5,0 1;add 9,0 2;cloud 3,3");
        flock.setTarget(8, 8);
        flock.advance(3);
        return flock;
    }

    private static Map<String, Consumer<BasketFlock>> changes() {
        Map<String, Consumer<BasketFlock>> changes = new LinkedHashMap<>();
        changes.put("addBasket", flock -> flock.addBasket(11, 11, 2));
        changes.put("jump", flock -> flock.jump(0, 11, 11));
        changes.put("setHandle", flock -> flock.setHandle(1, 2));
        changes.put("addCloud", flock -> flock.addCloud(9, 9));
        changes.put("removeCloud", flock -> flock.removeCloud(3, 3));
        changes.put("setTurnLength", flock -> flock.setTurnLength(7));
        changes.put("setTarget", flock -> flock.setTarget(1, 2));
        changes.put("setKeep", flock -> flock.setKeep(2));
        changes.put("advance", flock -> flock.advance(1));
        changes.put("run", flock -> Flocks.run(flock, "keep 5"));
        return changes;
    }

    private static Map<String, Consumer<BasketFlock>> readings() {
        Map<String, Consumer<BasketFlock>> calls = new LinkedHashMap<>();
        calls.put("basketCount", BasketFlock::basketCount);
        calls.put("xOf", flock -> flock.xOf(0));
        calls.put("yOf", flock -> flock.yOf(0));
        calls.put("handleOf", flock -> flock.handleOf(0));
        calls.put("basketAt", flock -> flock.basketAt(flock.xOf(0), flock.yOf(0)));
        calls.put("distance", flock -> flock.distance(0, 1));
        calls.put("nearestTo", flock -> flock.nearestTo(0));
        calls.put("isCloud", flock -> flock.isCloud(3, 3));
        calls.put("cloudCount", BasketFlock::cloudCount);
        calls.put("turnLength", BasketFlock::turnLength);
        calls.put("leader", BasketFlock::leader);
        calls.put("leaderAfter", flock -> flock.leaderAfter(9));
        calls.put("leaderAfterByCounting", flock -> flock.leaderAfterByCounting(9));
        calls.put("targetX", BasketFlock::targetX);
        calls.put("targetY", BasketFlock::targetY);
        calls.put("stepsToTarget", BasketFlock::stepsToTarget);
        calls.put("keep", BasketFlock::keep);
        calls.put("stepCount", BasketFlock::stepCount);
        calls.put("movesOf", flock -> flock.movesOf(0));
        calls.put("moveTotal", BasketFlock::moveTotal);
        calls.put("waitTotal", BasketFlock::waitTotal);
        calls.put("formationCount", BasketFlock::formationCount);
        calls.put("formationCountByMerging", BasketFlock::formationCountByMerging);
        calls.put("largestFormation", BasketFlock::largestFormation);
        calls.put("formationOf", flock -> flock.formationOf(2));
        calls.put("mixedPairs", BasketFlock::mixedPairs);
        calls.put("mixedPairsByHandles", BasketFlock::mixedPairsByHandles);
        calls.put("shapeCount", BasketFlock::shapeCount);
        calls.put("differentShapes", BasketFlock::differentShapes);
        calls.put("stepsSinceShape", BasketFlock::stepsSinceShape);
        calls.put("basketAtRank", flock -> flock.basketAtRank(1));
        calls.put("meanDistance", BasketFlock::meanDistance);
        calls.put("mixedShare", BasketFlock::mixedShare);
        calls.put("isConsistent", BasketFlock::isConsistent);
        return calls;
    }

    private static void whatIsAChange() {
        test(0, "A change is a successful call of addBasket, jump, setHandle", () -> {
            String before = Flocks.describe(three());
            for (Map.Entry<String, Consumer<BasketFlock>> change : changes().entrySet()) {
                BasketFlock flock = three();
                change.getValue().accept(flock);
                is(change.getKey() + " changes something", Flocks.describe(flock).equals(before), false);
                is(change.getKey() + " is a change", flock.undo(), 3);
                is(change.getKey() + " is undone", Flocks.describe(flock), before);
            }
            for (Map.Entry<String, Consumer<BasketFlock>> reading : readings().entrySet()) {
                leavesNoTrace(reading.getKey(), ChangeSentences::three, reading.getValue());
            }
            for (Consumer<BasketFlock> other : java.util.List.<Consumer<BasketFlock>>of(BasketFlock::save,
                    flock -> flock.describeRow(3), flock -> flock.append('a'))) {
                BasketFlock flock = three();
                other.accept(flock);
                is("save, describeRow and append change nothing", Flocks.describe(flock), before);
                is("save, describeRow and append are no changes", flock.undo(), 2);
            }
        });
    }

    private static void nothingDiffers() {
        test(0, "A successful call is a change even if nothing differs afterwards.", () -> {
            Map<String, Consumer<BasketFlock>> same = new LinkedHashMap<>();
            same.put("jump into its own cell", flock -> flock.jump(0, flock.xOf(0), flock.yOf(0)));
            same.put("the same handle", flock -> flock.setHandle(1, 1));
            same.put("the same target", flock -> flock.setTarget(8, 8));
            same.put("the same keep", flock -> flock.setKeep(3));
            same.put("a command with the same keep", flock -> Flocks.run(flock, "keep 3"));
            same.put("commands that undo one another", flock -> Flocks.run(flock, "cloud 9,9;clear 9,9"));
            String before = Flocks.describe(three());
            for (Map.Entry<String, Consumer<BasketFlock>> change : same.entrySet()) {
                BasketFlock flock = three();
                change.getValue().accept(flock);
                is(change.getKey() + ": nothing differs", Flocks.describe(flock), before);
                is(change.getKey() + ": a change", flock.undo(), 3);
                is(change.getKey() + ": nothing differs after undo", Flocks.describe(flock), before);
            }
            BasketFlock turn = new BasketFlock();
            turn.setTurnLength(4);
            is("the same turn length: a change", turn.undo(), 0);
        });
    }

    private static void oneChange() {
        test(0, "A call of run that carries out several commands is one change.", () -> {
            BasketFlock flock = three();
            String before = Flocks.describe(flock);
            is("eight commands", Flocks.run(flock, "turn 2;turn 3;turn 4;turn 5;keep 6;step 8;keep 2;step 9"), 8);
            is("one change more", flock.undo(), 3);
            is("all of them undone", Flocks.describe(flock), before);
            BasketFlock many = new BasketFlock();
            for (int run = 1; run <= 9; run++) {
                Flocks.run(many, "step 1;step 1");
            }
            is("nine runs, the latest one undone", many.undo(), 7);
            is("both its commands undone", many.stepCount(), 16);
        });
    }

    private static void latestEight() {
        test(0, "The latest 8 changes can be undone, the latest one first.", () -> {
            for (int changes = 1; changes <= 10; changes++) {
                BasketFlock flock = new BasketFlock();
                for (int steps = 1; steps <= changes; steps++) {
                    flock.advance(steps);
                }
                int left = changes * (changes + 1) / 2;
                for (int steps = changes; steps > Math.max(0, changes - 8); steps--) {
                    flock.undo();
                    left -= steps;
                    is(changes + " changes, change " + steps + " undone", flock.stepCount(), left);
                }
                fails(STATE, changes + " changes, no more to undo", flock::undo);
                is(changes + " changes, the others stay", flock.stepCount(), left);
            }
        });
    }

    private static void whatIsLeft() {
        test(0, "The command text, the error position, the failed command, the kept refusal, and the line", () -> {
            BasketFlock flock = Flocks.withClouds(Flocks.at(5, 5, 7, 7), 9, 9);
            is("refused at first", Flocks.outcome(() -> flock.addBasket(9, 9, 0)), "throws.UnsupportedOperationException");
            flock.save();
            flock.setKeep(5);
            is("refused later", Flocks.outcome(() -> flock.jump(0, 7, 6)), "throws.UnsupportedOperationException");
            is("wrong", Flocks.outcome(() -> Flocks.run(flock, "turx")), "throws.IllegalArgumentException");
            is("failing", Flocks.outcome(() -> Flocks.run(flock, "turn 3;turn 1")), "throws.IllegalStateException");
            flock.describeRow(7);
            Flocks.type(flock, "turn ");
            flock.undo();
            left(flock, "undone");
            is("the text is not undone", flock.append('9'), 6);
            flock.restore();
            left(flock, "restored");
            is("the text is not restored", flock.run(), 1);
            is("the text runs", flock.turnLength(), 9);
        });
    }

    private static void left(BasketFlock flock, String how) {
        is("the reason is not " + how, flock.refusalReason(), 2);
        is("the detail is not " + how, flock.refusalDetail(), 1);
        is("the error position is not " + how, flock.errorPosition(), 3);
        is("the failed command is not " + how, flock.failedCommand(), 1);
        is("the line is not " + how, flock.lineAt(7), '1');
    }

    private static void everythingElse() {
        test(0, "Everything else is.", () -> {
            Map<String, Consumer<BasketFlock>> changes = changes();
            changes.put("advance by many steps", flock -> flock.advance(20));
            changes.put("run of much", flock -> Flocks.run(flock, "turn 2;keep 6;goal 0,0;clear 3,3;add 11,11 1;step 20"));
            for (Map.Entry<String, Consumer<BasketFlock>> change : changes.entrySet()) {
                BasketFlock flock = three();
                String before = Flocks.describe(flock);
                flock.save();
                change.getValue().accept(flock);
                flock.undo();
                is(change.getKey() + " is undone", Flocks.describe(flock), before);
                change.getValue().accept(flock);
                flock.restore();
                is(change.getKey() + " is taken back by restore", Flocks.describe(flock), before);
                BasketFlock twin = three();
                flock.advance(20);
                twin.advance(20);
                is(change.getKey() + " leaves nothing for later steps", Flocks.describe(flock), Flocks.describe(twin));
            }
            BasketFlock empty = new BasketFlock();
            String before = Flocks.describe(empty);
            empty.save();
            for (Map.Entry<String, Consumer<BasketFlock>> change : changes.entrySet()) {
                if (!change.getKey().equals("removeCloud")) {
                    BasketFlock flock = new BasketFlock();
                    flock.save();
                    Flocks.run(flock, "add 0,0 0;add 5,5 1;step 3;goal 9,9;add 9,4 0;cloud 3,3");
                    change.getValue().accept(flock);
                    flock.undo();
                    flock.undo();
                    is("everything before " + change.getKey() + " is undone", Flocks.describe(flock), before);
                    Flocks.run(flock, "add 5,5 0;goal 9,9;step 3");
                    flock.restore();
                    is("everything with " + change.getKey() + " is restored", Flocks.describe(flock), before);
                    Flocks.run(flock, "add 5,5 0;add 7,5 0;step 3");
                    is("leading begins again after " + change.getKey(), flock.leader(), 0);
                }
            }
        });
    }

    /** Something of everything that a call could spoil, a command begun, and more changes than can be undone. */
    private static BasketFlock rich() {
        BasketFlock flock = Flocks.withClouds(Flocks.full(), 9, 9, 10, 9, 11, 9);
        Flocks.outcome(() -> Flocks.run(flock, "turn 3;turn 1"));
        Flocks.outcome(() -> Flocks.run(flock, "turx"));
        Flocks.outcome(() -> flock.jump(0, 9, 9));
        flock.setTarget(11, 6);
        flock.advance(7);
        flock.save();
        flock.setHandle(3, 1);
        flock.advance(3);
        flock.setKeep(4);
        flock.describeRow(9);
        return Flocks.type(flock, "keep ");
    }

    /** Little: nothing is there yet. */
    private static BasketFlock poor() {
        return Flocks.type(new BasketFlock(), "keep ");
    }

    private static Map<String, Consumer<BasketFlock>> failingWithMuch() {
        Map<String, Consumer<BasketFlock>> calls = new LinkedHashMap<>();
        calls.put("addBasket out of range", flock -> flock.addBasket(12, 0, 0));
        calls.put("an eleventh addBasket", flock -> flock.addBasket(0, 11, 0));
        calls.put("jump of no basket", flock -> flock.jump(10, 0, 11));
        calls.put("jump out of range", flock -> flock.jump(0, -1, 0));
        calls.put("jump into a cloud", flock -> flock.jump(1, 11, 9));
        calls.put("setHandle of no basket", flock -> flock.setHandle(-1, 0));
        calls.put("setHandle out of range", flock -> flock.setHandle(0, 3));
        calls.put("xOf no basket", flock -> flock.xOf(10));
        calls.put("yOf no basket", flock -> flock.yOf(10));
        calls.put("handleOf no basket", flock -> flock.handleOf(10));
        calls.put("basketAt out of range", flock -> flock.basketAt(12, 0));
        calls.put("basketAt a cloud", flock -> flock.basketAt(9, 9));
        calls.put("distance of no basket", flock -> flock.distance(0, 10));
        calls.put("nearestTo no basket", flock -> flock.nearestTo(10));
        calls.put("addCloud out of range", flock -> flock.addCloud(0, 12));
        calls.put("addCloud on a cloud", flock -> flock.addCloud(9, 9));
        calls.put("addCloud on a basket", flock -> flock.addCloud(flock.xOf(9), flock.yOf(9)));
        calls.put("removeCloud out of range", flock -> flock.removeCloud(0, 12));
        calls.put("removeCloud of none", flock -> flock.removeCloud(0, 11));
        calls.put("isCloud out of range", flock -> flock.isCloud(0, 12));
        calls.put("setTurnLength out of range", flock -> flock.setTurnLength(1));
        calls.put("leaderAfter out of range", flock -> flock.leaderAfter(100));
        calls.put("leaderAfterByCounting out of range", flock -> flock.leaderAfterByCounting(100));
        calls.put("setTarget out of range", flock -> flock.setTarget(12, 12));
        calls.put("setKeep out of range", flock -> flock.setKeep(7));
        calls.put("advance out of range", flock -> flock.advance(21));
        calls.put("movesOf no basket", flock -> flock.movesOf(10));
        calls.put("formationOf no basket", flock -> flock.formationOf(10));
        calls.put("basketAtRank of none", flock -> flock.basketAtRank(10));
        calls.put("append of a wrong character", flock -> flock.append((char) 127));
        calls.put("describeRow out of range", flock -> flock.describeRow(12));
        calls.put("lineAt out of range", flock -> flock.lineAt(12));
        return calls;
    }

    private static Map<String, Consumer<BasketFlock>> failingWithNothing() {
        Map<String, Consumer<BasketFlock>> calls = new LinkedHashMap<>();
        calls.put("refusalReason of none", BasketFlock::refusalReason);
        calls.put("refusalDetail of none", BasketFlock::refusalDetail);
        calls.put("leader of none", BasketFlock::leader);
        calls.put("leaderAfter of none", flock -> flock.leaderAfter(0));
        calls.put("leaderAfterByCounting of none", flock -> flock.leaderAfterByCounting(0));
        calls.put("setTarget of none", flock -> flock.setTarget(0, 0));
        calls.put("targetX of none", BasketFlock::targetX);
        calls.put("targetY of none", BasketFlock::targetY);
        calls.put("stepsToTarget of none", BasketFlock::stepsToTarget);
        calls.put("stepsSinceShape of none", BasketFlock::stepsSinceShape);
        calls.put("errorPosition of none", BasketFlock::errorPosition);
        calls.put("failedCommand of none", BasketFlock::failedCommand);
        calls.put("meanDistance of none", BasketFlock::meanDistance);
        calls.put("mixedShare of none", BasketFlock::mixedShare);
        calls.put("undo of none", BasketFlock::undo);
        calls.put("restore of none", BasketFlock::restore);
        return calls;
    }

    private static void exceptionsChangeNothing() {
        test(0, "A method that throws an exception changes nothing", () -> {
            for (Map.Entry<String, Consumer<BasketFlock>> call : failingWithMuch().entrySet()) {
                throwsAndLeavesNoTrace(call.getKey(), call.getValue(), true);
            }
            for (Map.Entry<String, Consumer<BasketFlock>> call : failingWithNothing().entrySet()) {
                throwsAndLeavesNoTrace(call.getKey(), call.getValue(), false);
            }
            leavesNoTrace("append to a full text", () -> {
                BasketFlock flock = Flocks.at(5, 5);
                return Flocks.type(flock, "keep 3;keep 4;keep 5;keep 6;keep 3;keep 4;keep 5;keep 6;step");
            }, flock -> flock.append('x'));
            leavesNoTrace("nearestTo the only one", () -> Flocks.at(5, 5), flock -> flock.nearestTo(0));
            BasketFlock refused = Flocks.at(5, 5);
            refused.setKeep(4);
            String before = Flocks.describe(refused);
            fails(UNSUPPORTED, "a refused basket", () -> refused.addBasket(5, 6, 0));
            fails(UNSUPPORTED, "a refused basket again", () -> refused.addBasket(5, 5, 0));
            is("the refusal is kept", refused.refusalReason(), 2);
            is("and nothing else", Flocks.describe(refused), before);
            is("no change", refused.undo(), 1);
            runsThatFail();
        });
    }

    private static void throwsAndLeavesNoTrace(String what, Consumer<BasketFlock> call, boolean withMuch) {
        BasketFlock flock = withMuch ? rich() : poor();
        is(what + " throws", Flocks.outcome(() -> {
            call.accept(flock);
            return "nothing";
        }).startsWith("throws."), true);
        leavesNoTrace(what, withMuch ? ChangeSentences::rich : ChangeSentences::poor, call);
    }

    private static void runsThatFail() {
        String before = Flocks.describe(rich());
        BasketFlock twin = rich();
        twin.undo();
        String undone = Flocks.describe(twin);
        String line = Flocks.line(twin, 9);
        BasketFlock wrong = rich();
        fails(ARGUMENT, "a wrong text", wrong::run);
        is("its error position is set", wrong.errorPosition(), 5);
        is("the failed command is left", wrong.failedCommand(), 1);
        BasketFlock failing = Flocks.type(rich(), "3;keep 4;step 20;turn 9;keep 1");
        fails(STATE, "a failing text", failing::run);
        is("its failed command is set", failing.failedCommand(), 4);
        is("the error position is left", failing.errorPosition(), 3);
        for (BasketFlock flock : new BasketFlock[] {wrong, failing}) {
            is("the command text is cleared", flock.append('a'), 1);
            is("the refusal is left", flock.refusalReason() * 10 + flock.refusalDetail(), 13);
            is("the line is left", flock.lineAt(9), line.charAt(9));
            is("nothing else changes", Flocks.describe(flock), before);
            is("no change", flock.undo(), 7);
            is("the latest change is undone", Flocks.describe(flock), undone);
            is("the snapshot is left", flock.restore(), 10);
            is("the saved steps", flock.stepCount(), 7);
        }
    }

    private static void firstException() {
        test(0, "If several exceptions apply, the exception listed first is thrown.", () -> {
            BasketFlock none = new BasketFlock();
            BasketFlock full = Flocks.withClouds(Flocks.full(), 9, 9, 9, 10, 9, 11, 10, 9, 10, 10, 10, 11, 11, 9, 11, 10);
            fails(ARGUMENT, "addBasket out of range, ten baskets", () -> full.addBasket(12, 0, 0));
            fails(ARGUMENT, "addBasket, wrong handle, ten baskets, in a cloud", () -> full.addBasket(9, 9, 3));
            fails(STATE, "addBasket, ten baskets, in a cloud", () -> full.addBasket(9, 9, 0));
            fails(STATE, "addBasket, ten baskets, on a basket", () -> full.addBasket(0, 0, 0));
            BasketFlock few = Flocks.withClouds(Flocks.at(5, 5), 9, 9);
            fails(ARGUMENT, "addBasket, wrong handle, in a cloud", () -> few.addBasket(9, 9, -1));
            fails(ARGUMENT, "addBasket, wrong handle, on a basket", () -> few.addBasket(5, 5, 3));
            fails(INDEX, "jump of no basket out of range", () -> few.jump(1, 12, 0));
            fails(INDEX, "jump of no basket into a cloud", () -> few.jump(1, 9, 9));
            fails(INDEX, "jump of no basket to a basket", () -> few.jump(-1, 5, 5));
            fails(NONE, "no placing was refused", few::refusalReason);
            fails(INDEX, "setHandle of no basket out of range", () -> few.setHandle(1, 3));
            fails(ARGUMENT, "basketAt out of range", () -> none.basketAt(12, 0));
            fails(INDEX, "distance of two that there are not", () -> none.distance(0, 1));
            fails(INDEX, "nearestTo in an empty sky", () -> none.nearestTo(0));
            fails(INDEX, "nearestTo of no basket with one basket", () -> few.nearestTo(1));
            fails(ARGUMENT, "addCloud out of range, eight clouds", () -> full.addCloud(12, 0));
            fails(STATE, "addCloud, eight clouds, on a basket", () -> full.addCloud(0, 0));
            fails(STATE, "addCloud, eight clouds, on a cloud", () -> full.addCloud(9, 9));
            fails(ARGUMENT, "removeCloud out of range", () -> none.removeCloud(-1, 0));
            fails(ARGUMENT, "leaderAfter out of range, no baskets", () -> none.leaderAfter(-1));
            fails(ARGUMENT, "leaderAfterByCounting out of range, no baskets", () -> none.leaderAfterByCounting(100));
            fails(ARGUMENT, "setTarget out of range, no baskets", () -> none.setTarget(0, 12));
            BasketFlock text = Flocks.type(new BasketFlock(), "turn 1;turn 2;turn 3;turn 4;turn 5;turn 6;turn 7;turn 8;x"
                    + "yz.");
            fails(ARGUMENT, "append of a wrong character to a full text", () -> text.append((char) 31));
            fails(ARGUMENT, "run of a wrong text behind a failing command", text::run);
            fails(NONE, "no command has failed", text::failedCommand);
        });
    }
}
