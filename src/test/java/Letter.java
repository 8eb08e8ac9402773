import java.nio.charset.StandardCharsets;
import java.security.GeneralSecurityException;
import java.security.MessageDigest;
import java.util.Base64;

/** Messages sealed by the Java library: what is signed is written out, so that nothing makes it PLAIN here. */
final class Letter {
    static final Signer SIGNER = new Signer(31);
    static final String KEY_NAME = "k._domainkey.a.com";
    static final String KEY = "p=" + SIGNER.key();
    static final String FROM = "From: x@a.com";
    static final String BODY = "hello\n";
    /** 64 bytes in BASE 64 that sign nothing. */
    static final String NO_SIGNATURE = "A".repeat(86) + "==";

    private Letter() {
    }

    static byte[] digest(String text) {
        try {
            return MessageDigest.getInstance("SHA-256").digest(text.getBytes(StandardCharsets.ISO_8859_1));
        } catch (GeneralSecurityException e) {
            throw new IllegalStateException(e);
        }
    }

    static String sum(String text) {
        return Base64.getEncoder().encodeToString(digest(text));
    }

    /** A SEAL by a.com, up to the value of b, with more TAGS in it and the sum of a BODY made PLAIN. */
    static String own(String more, String plainBody) {
        return "DKIM-Signature: v=1; a=rsa-sha256; d=a.com; s=k; h=from; " + more + "bh=" + sum(plainBody) + "; b=";
    }

    /** A MESSAGE from x@a.com whose SEAL is right; FIELDS and BODY are made PLAIN by simple. */
    static String sealed(String more) {
        String own = own(more, BODY);
        return FROM + "\n" + own + SIGNER.signed(FROM + "\n" + own) + "\n\n" + BODY;
    }

    /** A MESSAGE from x@a.com with the FIELD. */
    static String with(String field) {
        return FROM + "\n" + field + "\n\n" + BODY;
    }

    /** What SEAL 0 of the message is, at the time 5, where a.com has the texts for its key. */
    static int answer(String message, String... keys) {
        return answer(5, message, keys);
    }

    static int answer(int now, String message, String... keys) {
        Gate gate = new Gate();
        for (String key : keys) {
            gate.text(KEY_NAME, key);
        }
        gate.message(message);
        return gate.gate.sealed(0, now);
    }
}
