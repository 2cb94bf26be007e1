/**
 * All that later calls can show of an object, as one text: it is used up by that. Two objects that answer alike
 * here hold the same, the row of ACTS, what was kept, what was TRIED and THE TEXT among it.
 */
final class Trace {
    private final LameLead lead;
    private final StringBuilder seen = new StringBuilder();

    private Trace(LameLead lead) {
        this.lead = lead;
    }

    static String of(LameLead lead) {
        Trace trace = new Trace(lead);
        trace.seen.append(Check.look(lead));
        trace.undoAll();
        trace.slots();
        trace.seedAndTried();
        trace.text();
        return trace.seen.toString();
    }

    private void add(long answer) {
        seen.append(' ').append(answer);
    }

    private void stand() {
        seen.append(" |");
        for (int what = 3; what <= 5; what++) {
            add(lead.about(what));
        }
        for (int man = 0; man < 5; man++) {
            add(lead.man(man, 2));
        }
    }

    private void undoAll() {
        int left = lead.undo();
        for (int i = 0; i < 15 && left >= 0; i++) {
            add(left);
            stand();
            left = lead.undo();
        }
        add(left);
    }

    private void slots() {
        for (int slot = 0; slot <= 1; slot++) {
            add(lead.again(slot));
            stand();
        }
    }

    private void seedAndTried() {
        add(lead.campaigns(30));
        add(lead.seed(0));
        for (int i = 0; i < 6 && lead.about(10) < 6; i++) {
            lead.attempt(1, 7, 1);
            add(lead.paces(0));
            add(lead.paces(1));
        }
        add(lead.unattempt());
    }

    private void text() {
        add(lead.army());
        add(lead.about(2));
        stand();
        add(lead.write(200));
        add(lead.fault());
        add(lead.wipe());
    }
}
