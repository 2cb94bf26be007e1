/** Counts answers that are not as due, for the tests of the project. */
final class Check {
    private int wrong;
    private int looked;

    void due(String what, long got, long want) {
        looked++;
        if (got != want) {
            wrong++;
            System.out.println(what + ": answered " + got + ", due is " + want);
        }
    }

    void isSo(String what, boolean so) {
        due(what, so ? 1 : 0, 1);
    }

    /** Ends the test: exit code 1 if an answer was wrong. */
    void end(String name) {
        System.out.println(name + ": " + looked + " answers, " + wrong + " not as due");
        if (wrong != 0 || looked == 0) {
            System.exit(1);
        }
    }

    static void tell(LameLead lead, String text) {
        lead.wipe();
        for (int i = 0; i < text.length(); i++) {
            lead.write(text.charAt(i));
        }
    }

    /** A new object whose ARMY is the text. */
    static LameLead of(String text) {
        LameLead lead = new LameLead();
        tell(lead, text);
        int made = lead.army();
        if (made < 0) {
            throw new IllegalStateException("no army: " + text);
        }
        return lead;
    }

    /**
     * All that can be seen without changing it, to compare ahead of and behind a call that is refused. Of those
     * who are not there only the first one is asked for, since an object is good for 512 calls.
     */
    static String look(LameLead lead) {
        StringBuilder seen = new StringBuilder();
        for (int what = 0; what <= 11; what++) {
            seen.append(lead.about(what)).append(' ');
        }
        int men = Math.min(5, lead.about(1) + 1);
        for (int man = 0; man < men; man++) {
            for (int what = 0; what < 4; what++) {
                seen.append(lead.man(man, what)).append(' ');
            }
        }
        int stretches = Math.min(8, lead.about(0) + 1);
        for (int stretch = 0; stretch < stretches; stretch++) {
            for (int what = 0; what < 3; what++) {
                seen.append(lead.stretch(stretch, what)).append(' ');
            }
        }
        seen.append(lead.fault()).append(' ').append(lead.paces(0)).append(' ').append(lead.paces(1)).append(' ');
        long seed = lead.seed(0);
        lead.seed(seed);
        return seen.append(seed).toString();
    }
}
