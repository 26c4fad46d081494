import java.util.Random;
import java.util.concurrent.Callable;

/** Random runs of calls, each answer of which is held against that of the model. */
public final class ModelTests {
    private static final int RUNS = 6000;
    private static final int LAST = 99999999;

    private static final Check check = new Check();

    private final Random random;
    private final String name;
    private final VersionAlgebra x = new VersionAlgebra();
    private final Model model = new Model();
    private final int slots;
    private int calls = 0;

    private ModelTests(int run) {
        random = new Random(run);
        name = "run " + run;
        slots = random.nextInt(3) == 0 ? 12 : 5;
    }

    public static void main(String[] args) {
        for (int run = 0; run < RUNS && check.wrongCount() == 0; run++) {
            new ModelTests(run).go();
        }
        check.finish();
    }

    private void go() {
        for (int slot = random.nextInt(3); slot < slots; slot += 1 + random.nextInt(2)) {
            int filled = slot;
            int first = Texts.version(random) % (random.nextBoolean() ? 60 : LAST);
            same("put(" + filled + ", " + first + ", ..)", () -> x.put(filled, first, first), () -> model.put(filled, first, first));
        }
        while (calls < 450) {
            step();
        }
    }

    private void same(String call, Callable<?> asked, Callable<?> due) {
        calls++;
        check.due(name + ", call " + calls + ": " + call, Check.ask(asked), Check.ask(due));
    }

    private void step() {
        int kind = random.nextInt(40);
        if (kind < 3) {
            read();
        } else if (kind < 6) {
            evaluate();
        } else if (kind < 10) {
            changeSlot();
        } else if (kind < 14) {
            changePublished();
        } else if (kind < 15) {
            goBack();
        } else {
            ask(random.nextInt(17));
        }
    }

    private void type(String text) {
        for (int i = 0; i < text.length(); i++) {
            char c = text.charAt(i);
            same("append(" + c + ")", () -> {
                x.append(c);
                return 0;
            }, () -> {
                model.append(c);
                return 0;
            });
        }
    }

    private void read() {
        type(random.nextInt(20) == 0 ? "1.0." : Texts.ofRange(random));
        int slot = slot();
        same("read(" + slot + ")", () -> x.read(slot), () -> model.read(slot, x.faultPosition() >= 0));
    }

    private void evaluate() {
        type(random.nextInt(20) == 0 ? "0+" : random.nextInt(4) == 0 ? joinedSlots() : Texts.ofExpression(random, slots));
        int slot = slot();
        same("evaluate(" + slot + ")", () -> x.evaluate(slot), () -> model.evaluate(slot, x.faultPosition() >= 0));
        if (random.nextInt(3) == 0) {
            checkChain();
        }
    }

    private void checkChain() {
        int index = random.nextInt(6) - 2;
        same("cause(" + index + ")", () -> x.cause(index), () -> model.cause(index));
        check.due(name + ": the chain", Check.chain(x), Check.ask(() -> {
            StringBuilder chain = new StringBuilder();
            for (int i = 0; i < model.cause(-1); i++) {
                chain.append(i == 0 ? "" : " ").append(model.cause(i));
            }
            return chain.toString();
        }));
    }

    private String joinedSlots() {
        StringBuilder text = new StringBuilder("0");
        for (int slot = 1; slot < slots; slot++) {
            text.append(random.nextInt(8) == 0 ? '-' : '+').append(random.nextInt(6) == 0 ? "!" : "").append(slot);
        }
        return text.toString();
    }

    private int slot() {
        int odd = random.nextInt(60);
        return odd == 0 ? -1 : odd == 1 ? 12 : odd == 2 ? Integer.MIN_VALUE : random.nextInt(slots);
    }

    private int version() {
        int odd = random.nextInt(40);
        if (odd == 0) {
            return random.nextBoolean() ? -1 : LAST + 1;
        }
        return odd < 10 ? random.nextInt(60) : odd == 10 ? LAST : odd == 11 ? 0 : nearEnd();
    }

    private int nearEnd() {
        int slot = random.nextInt(slots);
        Object spans = Check.ask(() -> x.spans(slot));
        if (!(spans instanceof Integer) || (Integer) spans == 0) {
            return Texts.version(random);
        }
        int end = x.end(slot, random.nextInt((Integer) spans), random.nextBoolean());
        int near = random.nextBoolean() ? end + random.nextInt(3) - 1 : end - end % 100 + random.nextInt(100);
        return Math.max(0, Math.min(LAST, near));
    }

    private void changeSlot() {
        int slot = slot();
        int other = slot();
        int first = version();
        int last = random.nextInt(3) == 0 ? version() : first + random.nextInt(3) - random.nextInt(2);
        switch (random.nextInt(10)) {
            case 0:
                same("clear(" + slot + ")", () -> x.clear(slot), () -> model.clear(slot));
                break;
            case 1:
            case 2:
                same("copy(" + slot + ", " + other + ")", () -> x.copy(slot, other), () -> model.copy(slot, other));
                break;
            default:
                same("put(" + slot + ", " + first + ", " + last + ")", () -> x.put(slot, first, last),
                        () -> model.put(slot, first, last));
                break;
        }
    }

    private void changePublished() {
        int version = version();
        if (random.nextInt(4) > 0) {
            same("publish(" + version + ")", () -> x.publish(version), () -> model.publish(version));
            return;
        }
        int count = x.account(3);
        int gone = count > 0 && random.nextInt(4) > 0 ? x.published(random.nextInt(count)) : version;
        same("withdraw(" + gone + ")", () -> x.withdraw(gone), () -> model.withdraw(gone));
    }

    private void goBack() {
        int kind = random.nextInt(8);
        if (kind == 0) {
            same("save()", () -> {
                x.save();
                return 0;
            }, () -> {
                model.save();
                return 0;
            });
        } else if (kind == 1) {
            same("restore()", () -> {
                x.restore();
                return 0;
            }, () -> {
                model.restore();
                return 0;
            });
        } else {
            for (int times = random.nextInt(4) == 0 ? 9 : random.nextInt(3); times >= 0; times--) {
                same("undo()", () -> x.undo(), () -> model.undo());
            }
        }
    }

    private void ask(int kind) {
        int slot = slot();
        int one = slot();
        int other = slot();
        int version = version();
        int index = random.nextInt(20) - 1;
        boolean is = random.nextBoolean();
        switch (kind) {
            case 0:
                same("spans(" + slot + ")", () -> x.spans(slot), () -> model.spans(slot));
                break;
            case 1:
                same("end(" + slot + ", " + index + ", " + is + ")", () -> x.end(slot, index, is),
                        () -> model.end(slot, index, is));
                break;
            case 2:
                same("size(" + slot + ")", () -> x.size(slot), () -> model.size(slot));
                break;
            case 3:
            case 4:
                same("contains(" + slot + ", " + version + ", " + is + ")", () -> x.contains(slot, version, is),
                        () -> model.contains(slot, version, is));
                break;
            case 5:
                same("from(" + slot + ", " + version + ")", () -> x.from(slot, version), () -> model.from(slot, version));
                break;
            case 6:
                same("relation(" + slot + ", " + other + ")", () -> x.relation(slot, other),
                        () -> model.relation(slot, other));
                break;
            case 7:
                agrees(slot, one, other);
                break;
            case 8:
                same("limit(" + version + ", " + is + ")", () -> x.limit(version, is), () -> model.limit(version, is));
                break;
            case 9:
                same("textLength(" + slot + ")", () -> x.textLength(slot), () -> model.textLength(slot));
                same("the text of " + slot, () -> Check.text(x, slot), () -> model.text(slot));
                break;
            case 10:
                same("text(" + slot + ", " + index + ")", () -> x.text(slot, index), () -> model.text(slot, index));
                break;
            case 11:
                same("refusal()", () -> x.refusal(), () -> model.refusal());
                break;
            case 12:
                same("published(" + index + ")", () -> x.published(index), () -> model.published(index));
                break;
            case 13:
                same("best(" + slot + ", " + is + ")", () -> x.best(slot, is), () -> model.best(slot, is));
                break;
            case 14:
                same("matching(" + slot + ", " + is + ")", () -> x.matching(slot, is), () -> model.matching(slot, is));
                break;
            case 15:
                same("share(" + slot + ")", () -> x.share(slot), () -> model.share(slot));
                break;
            default:
                int what = random.nextInt(10) - 1;
                same("account(" + what + ")", () -> x.account(what), () -> model.account(what));
                break;
        }
    }

    private void agrees(int slot, int one, int other) {
        int operation = random.nextInt(12) == 0 ? 3 : random.nextInt(3);
        if (random.nextBoolean() && operation < 3 && one >= 0 && other >= 0 && x.account(7) == 0) {
            type(one + "+&-".substring(operation, operation + 1) + other);
            same("evaluate(" + slot + ")", () -> x.evaluate(slot), () -> model.evaluate(slot, x.faultPosition() >= 0));
        }
        same("agrees(" + slot + ", " + one + ", " + other + ", " + operation + ")",
                () -> x.agrees(slot, one, other, operation), () -> model.agrees(slot, one, other, operation));
    }
}
