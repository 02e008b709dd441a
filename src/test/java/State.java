/** All that the face shows of a vault, as a text. */
final class State {
    private State() {
    }

    static String of(RetentionVault vault) {
        StringBuilder text = new StringBuilder("link ").append(vault.link());
        for (int k = 0; k <= 5; k++) {
            text.append(", ").append(vault.figure(k));
        }
        for (int version = 0; version < vault.figure(2); version++) {
            text.append("; ").append(version).append(':').append(version(vault, version));
        }
        return text.append("; log").append(log(vault)).toString();
    }

    private static String version(RetentionVault vault, int version) {
        StringBuilder text = new StringBuilder();
        try {
            for (int what = 0; what <= 7; what++) {
                text.append(' ').append(vault.about(version, what));
            }
        } catch (java.util.NoSuchElementException e) {
            return " none";
        }
        try {
            text.append(" read ").append(vault.read(version));
        } catch (java.util.NoSuchElementException e) {
            text.append(" marker");
        } catch (IllegalStateException e) {
            text.append(" cold");
        }
        try {
            text.append(" current ").append(vault.current(vault.about(version, 0)));
        } catch (java.util.NoSuchElementException e) {
            text.append(" no current");
        }
        return text.toString();
    }

    private static String log(RetentionVault vault) {
        StringBuilder text = new StringBuilder();
        int kept = Math.min(64, vault.figure(3));
        for (int k = 0; k < kept; k++) {
            text.append(" (");
            for (int what = 0; what < 4; what++) {
                text.append(what == 0 ? "" : " ").append(vault.entry(k, what));
            }
            text.append(')');
        }
        return text.toString();
    }
}
