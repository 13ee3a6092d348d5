import sys,random,subprocess
sys.path.insert(0,__import__('os').path.dirname(__import__('os').path.abspath(__file__)))
from model import *
import model
OUTS={'show','schema','witness','common','least','encode','result','shapeOf','rewrite'}
R=random.Random()
NAMES=['a','b','c','d','aa','z']; TAGS=['A','B','Cc','L']
def rname(): return R.choice(NAMES)
def rshape(defs,dep,budget,allowrec=True):
    n=R.choice([1,1,1,2,2,3]) if dep<3 else 1
    return '|'.join(rpart(defs,dep,budget) for _ in range(n))
def rnum():
    a=R.choice([0,0,1,2,-1,-3,5,9,10,99,-9999,9999]); b=R.choice([a,a+1,a+3,a+9,9999,20]); a,b=min(a,b),max(a,b); return max(a,-9999),min(b,9999)
def ritems():
    n=R.choice([1,1,2,2,3,4]); its=[R.choice('abc.') for _ in range(n)]; mods=['']*n
    for i in range(max(0,n-3),n):
        if R.random()<.35: mods[i]=R.choice('*?')
    return ''.join(c+m for c,m in zip(its,mods))
def rpart(defs,dep,budget):
    budget[0]-=1
    c=R.random()
    if dep>=3 or budget[0]<=0: c=c*.4
    if c<.15: return 'num' if R.random()<.4 else 'num(%d..%d)'%rnum()
    if c<.28: return 'text' if R.random()<.4 else 'text(%s)'%ritems()
    if c<.30: return 'none'
    if c<.40: return '@'+R.choice(defs) if defs else 'num'
    if c<.55:
        if R.random()<.6:
            lo=R.choice([0,0,1,2]); hi=R.choice([lo,lo+1,3 if lo<=3 else lo,8]); x=';%d..%d'%(lo,hi)
        else: x=''
        return '['+rshape(defs,dep+1,budget)+x+']'
    if c<.78:
        n=R.choice([0,1,1,2,2,3]); ns=R.sample(NAMES,n)
        return '{'+','.join(f+R.choice(['','','?'])+':'+rshape(defs,dep+1,budget) for f in ns)+'}'
    if c<.93: return R.choice(TAGS)+'('+rshape(defs,dep+1,budget)+')'
    return '<'+rshape(defs,dep+1,budget)+'>'
def rrec(defs,budget):
    n=R.choice([1,2,2,3,3,4,5]); ns=R.sample(NAMES,n)
    def fs():
        c=R.random()
        if c<.3: return 'num(%d..%d)'%R.choice([(0,99),(0,9),(3,47),(0,5),(1,1),(10,20)])
        if c<.45: return '{'+','.join(f+R.choice(['','?'])+':num' for f in R.sample(NAMES,R.choice([0,1,2])))+'}'
        if c<.55: return R.choice(TAGS)+'('+rshape(defs,2,budget)+')'
        return rshape(defs,1,budget)
    return '{'+','.join(f+R.choice(['','','?'])+':'+fs() for f in ns)+'}'
import os
MODE=os.environ.get('MODE','')
def simple():
    nd=R.choice([1,1,2,2]); defs=R.sample(['R','T','U'],nd); t=''
    def sp(d):
        c=R.random()
        if d>=2: c*=.45
        if c<.14: return R.choice(['num','num(-1..1)','num(0..1)','num(1..5)','num(-3..0)','num(2..9)'])
        if c<.30: return R.choice(['text','text(a)','text(a*)','text(.)','text(a?b?)','text(b.*)','text(a*b?c)','text(..*)','text(ab)','text(.?a?.?)'])
        if c<.45: return '@'+R.choice(defs)
        if c<.6: return '['+ss(d+1)+R.choice(['','',';0..1',';1..2',';0..2',';2..2',';1..8',';3..3'])+']'
        if c<.75: return '{'+','.join(f+R.choice(['','?'])+':'+ss(d+1) for f in R.sample(['a','b','c'],R.choice([0,1,1,2,2,3])))+'}'
        if c<.9: return R.choice(['A','B'])+'('+ss(d+1)+')'
        return '<'+ss(d+1)+'>'
    def ss(d): return '|'.join(sp(d) for _ in range(R.choice([1,1,2,2,3,4]) if d<2 else R.choice([1,1,2])))
    for d in defs: t+=d+'='+ss(0)+';'
    return t
def bigshape(defs,dep,st):
    n=R.choice([1,1,1,2,2,3,4,6,7]) if dep<2 else R.choice([1,1,1,2])
    return '|'.join(bigpart(defs,dep,st) for _ in range(n))
def bigpart(defs,dep,st):
    st[0]-=1; c=R.random()
    if st[0]<=0 or dep>12: c*=.5
    if c<.2: return 'num' if R.random()<.4 else 'num(%d..%d)'%rnum()
    if c<.3: return 'text' if R.random()<.4 else 'text(%s)'%ritems()
    if c<.5: return '@'+R.choice(defs)
    if c<.62: return '['+bigshape(defs,dep+1,st)+']'
    if c<.8: return '{'+','.join(f+R.choice(['','?'])+':'+bigshape(defs,dep+1,st) for f in R.sample(NAMES,R.choice([0,1,2,3,6])))+'}'
    if c<.92: return R.choice(TAGS)+'('+bigshape(defs,dep+1,st)+')'
    return '<'+bigshape(defs,dep+1,st)+'>'
def rschema():
    if MODE=='big':
        nd=R.choice([1,2,3,4,4,5]); defs=R.sample(['R','T','U','Vv','W'],nd); st=[R.choice([10,16,22,26])]
        t=''
        for i,d in enumerate(defs):
            t+=d+'='+(rrec(defs,[3]) if R.random()<.4 else bigshape(defs,R.choice([0,0,1,2]),st))+';'
        return t
    if MODE=='deep':
        k=R.choice([7,8,9,10,11]); pre='';post=''
        for _ in range(k):
            c=R.choice('[<T[')
            if c=='[': pre+='[';post=']'+post
            if c=='<': pre+='<';post='>'+post
            if c=='T': pre+='T(';post=')'+post
        core=R.choice(['num','@S','num|@R','num(0..9)','text(a)','Q(num)'])
        pre2='['*R.choice([0,1,2]); post2=']'*len(pre2)
        return R.choice(['R={a:%s,r:{b:num},c?:%s};S={x:num,y?:@S};'%(pre+core+post,pre2+'num(0..5)'+post2),'R=%s;S={a:num(0..99),r:{c?:@R}};'%(pre+core+post),'R={a:%s};S={f:num};'%(pre+core+post)])
    if MODE=='simple':
        for _ in range(200):
            t=simple(); f,dd=parse_schema(t)
            if f is None: return t
        return 'R=num;'
    return rschema0()
def rschema0():
    for _ in range(60):
        nd=R.choice([1,1,2,2,3]); defs=R.sample(['R','T','U','Vv'],nd); budget=[14]
        t=''
        for i,d in enumerate(defs):
            if R.random()<.6: s=rrec(defs,budget)
            else: s=rshape(defs,0,budget)
            t+=d+'='+s+';'
        f,dd=parse_schema(t)
        if f is None: return t
        if R.random()<.03: return t
    return 'R={a:num(0..9),b?:text};'
def rlit(): return ''.join(R.choice('abc') for _ in range(R.choice([0,1,1,2,3])))
def rvalue_of(sh,D,dep=0):
    ps=leads(sh,D); R.shuffle(ps)
    if dep>5: ps.sort(key=lambda p:p[0] not in('num','text'))
    if dep>9: return None
    for p in ps:
        k=p[0]
        if k=='num':
            return ('n',R.choice([p[1],p[2],R.randint(p[1],p[2]),max(p[1],min(p[2],R.randint(-3,12)))]))
        if k=='text':
            if p[1] is None: return ('t',rlit())
            t=''
            for c,m in p[1]:
                n=1 if m=='' else R.choice([0,1]) if m=='?' else R.choice([0,1,2])
                t+=''.join(R.choice('abcx') if c=='.' else c for _ in range(n))
            return ('t',t[:8])
        if k=='list':
            n=R.randint(p[2],min(p[3],p[2]+2)); it=[rvalue_of(p[1],D,dep+1) for _ in range(n)]
            if None in it: continue
            return ('l',tuple(it))
        if k=='map':
            n=R.choice([0,1,2]); it=[rvalue_of(p[1],D,dep+1) for _ in range(n)]
            if None in it: continue
            ks=sorted(R.sample(['','a','b','aa','zz','c'],n),key=sk)
            return ('m',tuple(zip(ks,it)))
        if k=='tag':
            x=rvalue_of(p[2],D,dep+1)
            if x is None: continue
            return ('g',p[1],x)
        if k=='rec':
            r=[];bad=False
            for f in p[1]:
                if f[1] and R.random()<.5: continue
                x=rvalue_of(f[2],D,dep+1)
                if x is None:
                    if f[1]: continue
                    bad=True;break
                r.append((f[0],x))
            if bad: continue
            return ('r',tuple(r))
    return None
def rvalue(dep=0):
    c=R.random()
    if dep>3: c*=.5
    if c<.3: return ('n',R.choice([0,1,-1,5,-9999,9999,12,R.randint(-99,99)]))
    if c<.5: return ('t',rlit())
    n=R.choice([0,1,2,3])
    if c<.65: return ('l',tuple(rvalue(dep+1) for _ in range(n)))
    if c<.8: return ('r',tuple((k,rvalue(dep+1)) for k in sorted(R.sample(NAMES,n),key=sk)))
    if c<.92: return ('g',R.choice(TAGS),rvalue(dep+1))
    return ('m',tuple((k,rvalue(dep+1)) for k in sorted(R.sample(['','a','b','aa'],n),key=sk)))
def mutate(t,alpha="abcnumtextoe(){}[]<>|;:,=.?*@!'-+0123456789ABR"):
    for _ in range(R.choice([1,1,2])):
        i=R.randint(0,len(t)); c=R.random()
        if c<.3: t=t[:i]+t[i+1:]
        elif c<.6: t=t[:i]+R.choice(alpha)+t[i:]
        elif c<.85: t=t[:i]+R.choice(alpha)+t[i+1:]
        else: t=t[:i]
    return t
def rpath(m,v):
    D=m.D(v); cur=[m.root(v)]; t=''
    for _ in range(R.choice([1,1,2,2,3,4,6])):
        opts=set()
        for p in [p for sh in cur for p in leads(sh,D)]:
            if p[0]=='rec':
                for f in p[1]: opts.add(('.',f[0]))
            if p[0]=='list': opts.add(('[]',))
            if p[0]=='map': opts.add(('<>',))
            if p[0]=='tag': opts.add(('!',p[1]))
        if not opts: break
        st=R.choice(sorted(opts)); t+=''.join(st); cur=m.step(cur,st,D)
    return t or '.a'
def rchange(m,v,d):
    """kind,n,text likely to stand"""
    sh=m.sh(v,d); fs=list(sh[0][1]) if len(sh)==1 and sh[0][0]=='rec' else []
    F={f[0]:f for f in fs}
    k=R.randrange(12); n=0
    has=lambda: R.choice(list(F)) if F and R.random()<.95 else rname()
    free=lambda: R.choice([x for x in NAMES+['q','p','new'] if x not in F] if R.random()<.95 else NAMES)
    D=m.D(v); defs=list(D)
    def val(shp): 
        x=rvalue_of(shp,D) if R.random()<.9 else rvalue()
        return show(x) if x else '0'
    def sm(fields):
        def fac(): 
            c=R.random()
            return R.choice(fields) if fields and c<.6 else str(R.choice([0,1,2,-3,10,100])) if c<.9 else '('+fac()+'+'+fac()+')'
        return '('+R.choice(['%s','%s+%s','%s-%s*%s','%s*%s','%s--%s']).replace('%s','{}').format(fac(),fac(),fac())+')'
    def df(shp,fields): return '='+(sm(fields) if R.random()<.4 else val(shp))
    if k==ADD:
        cnt=R.choice([1,1,2,3]); new=[free() for _ in range(cnt)]; t=[]
        for nm in new:
            s=R.choice(['num','num(0..9)',rshape(defs,2,[4])]); f,sd=parse(('S',0),s,lambda p:p.shape())
            try: t.append(nm+R.choice(['','?'])+':'+s+df(sd,[x for x in list(F)+new if x!=nm]))
            except KeyError: t.append(nm+':num=0')
        return k,0,','.join(t)
    a=has(); f=F.get(a)
    if k in(DROP,REQUIRE):
        if k==REQUIRE:
            o=[x for x in F if F[x][1]]
            if o: a=R.choice(o); f=F[a]
        return k,0,a+(df(f[2],[x for x in F if x!=a]) if f else '=0')
    if k==RENAME: return k,0,a+','+(free() if R.random()<.9 else a)
    if k in(SPLIT,JOIN):
        cs=[x for x in F if not F[x][1] and len(F[x][2])==1 and F[x][2][0][0]=='num' and F[x][2][0][1]>=0]
        n=R.choice([2,3,5,10,7,20,100])
        if k==SPLIT: 
            if cs: a=R.choice(cs)
            return k,n,','.join([a,R.choice([free(),a]),free()])
        if len(cs)>1: a,b=R.sample(cs,2)
        else: b=has()
        return k,n,','.join([a,b,R.choice([free(),a,b])])
    if k in(MOVE,LIFT):
        rs=[x for x in F if not F[x][1] and len(F[x][2])==1 and F[x][2][0][0]=='rec']
        r=R.choice(rs) if rs else has()
        if k==MOVE: return k,0,a+','+r
        inn=[x[0] for x in F[r][2][0][1]] if r in F and F[r][2][0][0]=='rec' else []
        return k,0,r+','+(R.choice(inn) if inn else rname())
    if k==RETYPE:
        s=R.choice(['num','num(0..9)','text',rshape(defs,2,[4]),rshape(defs,2,[4])]); ff,sd=parse(('S',0),s,lambda p:p.shape())
        if f and R.random()<.4: s=tshape(f[2])+'|'+R.choice(['num(0..3)','text(a)','Z(num)','none']); ff,sd=parse(('S',0),s,lambda p:p.shape())
        return k,0,a+':'+s+df(sd or (('num',0,1),),[x for x in F if x!=a])
    if k==WRAP: return k,0,a+','+R.choice(TAGS)
    if k==UNWRAP:
        o=[x for x in F if len(F[x][2])==1 and F[x][2][0][0]=='tag']
        if o: a=R.choice(o)
    if k==RELAX:
        o=[x for x in F if not F[x][1]]
        if o: a=R.choice(o)
    return k,0,a
def gen(m,script,ncalls,weights):
    """runs the model while making the script; yields (line, expected or None)"""
    def do(name,*a):
        line=' '.join([name]+[str(x) for x in a])
        try: r=str(getattr(m,name)(*a))
        except IOOBE: r='IOOBE'
        except IAE: r='IAE'
        except ISE: r='ISE'
        if name in OUTS and r not in('IOOBE','IAE','ISE'): r+=' '+m.out.hex()
        script.append((line,r.strip())); return r
    def T(t):
        if not t or '\n' in t: return
        b=t.encode('latin1')[:600-len(m.tape)]
        if not b: return
        m.tape+=b
        script.append(('T '+b.decode('latin1'),str(len(m.tape))))
    def ver(): return R.randrange(len(m.vs)) if m.vs and R.random()<.97 else R.choice([-1,len(m.vs),99])
    def dfn(v): 
        if 0<=v<len(m.vs) and R.random()<.97: return R.randrange(len(m.vs[v]['defs']))
        return R.choice([-1,4,0])
    def slot(): return R.randrange(8) if R.random()<.98 else R.choice([-1,8,100])
    def full():
        s=[i for i in range(8) if m.slots[i] is not None]
        return R.choice(s) if s and R.random()<.95 else slot()
    for _ in range(2):
        T(rschema()); do('begin')
    names,ws=zip(*weights.items())
    for _ in range(ncalls):
        if not m.vs: T(rschema()); do('begin')
        c=R.choices(names,ws)[0]
        if m.tape and R.random()<.9: do('put',0)
        v=ver(); ok=0<=v<len(m.vs)
        if c=='put':
            d=dfn(v) if ok else 0
            x=None
            if ok and 0<=d<len(m.vs[v]['defs']) and R.random()<.85: x=rvalue_of(m.sh(v,0 if R.random()<.7 else d),m.D(v))
            t=show(x or rvalue())
            if R.random()<.1: t=mutate(t)
            T(t); do('put',slot()); 
            if R.random()<.3: do('fault')
        elif c=='begin':
            t=rschema()
            if R.random()<.2: t=mutate(t)
            if len(m.vs)<9 or R.random()<.1: T(t); do('begin'); do('fault')
        elif c=='change' and ok:
            d=dfn(v); recs=[i for i,(n,s) in enumerate(m.vs[v]['defs']) if len(s)==1 and s[0][0]=='rec']
            if recs and R.random()<.9: d=R.choice(recs)
            if not 0<=d<len(m.vs[v]['defs']): do('change',v,0,d,0); continue
            if m.vs and R.random()<.25:
                o=[x['ch'] for x in m.vs if x['ch']]
                if o: k,d2,n,t=R.choice(o); d=d2
                else: k,n,t=rchange(m,v,d)
            else: k,n,t=rchange(m,v,d)
            if R.random()<.08: t=mutate(t)
            if R.random()<.03: k=R.choice([12,-1,k])
            T(t); 
            if not (0<=d<len(m.vs[v]['defs'])): d=0
            do('change',v,k,d,n)
            if R.random()<.5: do('fault')
            if R.random()<.5 and m.vs: do('schema',len(m.vs)-1)
        elif c in('schema','signature','parent','isPlain'): do(c,v)
        elif c=='isOf': do(c,v,dfn(v),full())
        elif c in('witness','common'):
            w=ver(); do(c,v,dfn(v),w,dfn(w))
        elif c=='least': do(c,v,dfn(v))
        elif c=='infer':
            if len(m.vs)<10: 
                r=do(c,R.choice([255,R.randrange(256),R.randrange(256),256]) if R.random()<.9 else 1<<R.randrange(8),R.choice([1,2,3,4,4,5 if R.random()<.1 else 2]))
                if m.vs: do('schema',len(m.vs)-1)
        elif c=='convert':
            r=do(c,v,ver(),full(),slot())
            s=m.slots.index(None) if None in m.slots else 0
            t=R.randrange(8)
            do('show',t)
        elif c=='conv2' and ok:
            # value of version v converted to relatives
            x=rvalue_of(m.root(v),m.D(v))
            if x is None: continue
            T(show(x)); 
            if do('put',0)=='ISE': continue
            rel=[w for w in range(len(m.vs)) if m.lca(v,w) is not None]
            w=R.choice(rel)
            if do('convert',v,w,0,1)!='ISE': 
                do('show',1)
                if do('convert',w,v,1,2)!='ISE': do('show',2)
        elif c=='losses': do(c,v,ver())
        elif c=='encode': do(c,v,full())
        elif c=='enc2' and ok:
            x=rvalue_of(m.root(v),m.D(v))
            if x is None or not isof(x,m.root(v),m.D(v)): continue
            T(show(x)); 
            if do('put',0)=='ISE': continue
            r=do('encode',v,0)
            n=int(r.split()[0]) if r[0].isdigit() else 0; b=bytearray(m.out)
            if R.random()<.4 and b: b[R.randrange(len(b))]^=1<<R.randrange(8)
            n2=n if R.random()<.85 else R.choice([n+1,n-1,max(0,n-3),n+8])
            t=bytes(b)
            if 10 in t or 13 in t or not t: continue
            T(t.decode('latin1')); do('decode',v,max(0,n2),1)
            do('show',1)
        elif c=='decode' and ok:
            t=''.join(chr(R.choice([R.randrange(256),R.randrange(256),0])) for _ in range(R.randint(1,12)))
            if '\n' in t or '\r' in t: continue
            T(t); do(c,v,R.choice([8*len(t),R.randint(0,8*len(t))]),slot())
        elif c=='query' and ok:
            i=0
            if R.random()<.8:
                x=rvalue_of(m.root(v),m.D(v))
                if x is None: continue
                T(show(x)); do('put',0)
            t=rpath(m,v)
            if R.random()<.1: t=mutate(t)
            T(t); r=do('query',v,i); do('fault')
            for j in range(3): do('result',j)
        elif c=='shapeOf' and ok:
            t=rpath(m,v)
            if R.random()<.1: t=mutate(t)
            T(t); do(c,v)
        elif c=='rewrite' and ok:
            T(rpath(m,v)); rel=[w for w in range(len(m.vs)) if m.lca(v,w) is not None]; do(c,v,R.choice(rel) if R.random()<.95 else ver())
        elif c=='write' and ok:
            x=rvalue_of(m.root(v),m.D(v))
            if x is None: continue
            T(show(x)); do('put',0); do('write',v,0)
        elif c=='read': do(c,R.randrange(len(m.docs)+1),v,7); do('show',7)
        elif c=='move': do(c,v,R.choice([1,2,3,12,13,0]) if R.random()<.3 else 2); do('versionOf',R.randrange(len(m.docs)+1))
        elif c=='conflicts': do(c,v,ver())
        elif c=='merge':
            do(c,v,ver()); do('versions')
            if m.vs: do('schema',len(m.vs)-1)
        elif c=='small': do(c,v,dfn(v),R.choice([1,2,3,3,4,0]))
        elif c=='putSmall': do(c,v,dfn(v),R.choice([1,2,3]),R.choice([0,0,0,1,1,2,3,5,8,13,21,50,-1]),3); do('show',3)
        elif c=='refuted':
            w=ver(); do(c,v,dfn(v),w,dfn(w),R.choice([1,2,3]))
        elif c=='shrink' and ok:
            w=ver(); d=dfn(v); e=dfn(w)
            if 0<=d<len(m.vs[v]['defs']):
                x=rvalue_of(m.sh(v,d),m.D(v))
                if x is None: continue
                T(show(x)); do('put',0)
                do('shrink',v,d,w,e,0); do('show',0)
        elif c in('clear','show'): do(c,slot())
        elif c=='compare': do(c,full(),full())
        elif c=='length': do(c); do('word',R.choice([0,1,2,-1,5]))
BASE={'put':6,'begin':2,'change':8,'schema':1,'signature':1,'parent':1,'isPlain':1,'isOf':3,'witness':2,'common':2,'least':2,'infer':2,'convert':3,'conv2':8,'losses':2,'encode':1,'enc2':4,'decode':2,'query':3,'shapeOf':3,'rewrite':6,'write':2,'read':3,'move':2,'conflicts':3,'merge':3,'small':2,'putSmall':3,'refuted':2,'shrink':3,'clear':1,'show':1,'compare':2,'length':1}
def main():
    seed0=int(sys.argv[1]); cnt=int(sys.argv[2]); ncalls=int(sys.argv[3]) if len(sys.argv)>3 else 40
    cp=sys.argv[4] if len(sys.argv)>4 else 'out'
    W=dict(BASE)
    if len(sys.argv)>5 and sys.argv[5]!='all':
        W={k:0 for k in BASE}
        for kv in sys.argv[5].split(','):
            k,_,n=kv.partition(':'); W[k]=int(n or 1)
    fails=0;total=0
    Model.MAXN=int(os.environ.get('MAXN','7'))
    stats={}
    for seed in range(seed0,seed0+cnt):
        R.seed(seed); m=Model(); sc=[('N','N')]
        try: gen(m,sc,ncalls,W)
        except Exception as e:
            import traceback; traceback.print_exc(); print('model failed at seed',seed); continue
        inp='\n'.join(l for l,_ in sc)+'\n'
        p=subprocess.run(['java','-XX:TieredStopAtLevel=1','-cp',cp,'Runner'],input=inp.encode('latin1'),capture_output=True)
        got=p.stdout.decode('latin1').split('\n')
        if p.stderr: print('seed',seed,'STDERR',p.stderr.decode()[:500])
        big=False
        for i,(l,e) in enumerate(sc):
            g=got[i].strip() if i<len(got) else '(nothing)'
            total+=1; nm=l.split()[0]; st=stats.setdefault(nm,[0,0]); st[0]+=1; st[1]+=e in('ISE','IOOBE','IAE')
            if g!=e:
                if nm in('witness','common','least') and e.split()[0]=='-1' and g.split()[0].isdigit() and int(g.split()[0])>Model.MAXN: big=True; continue
                if nm in('length','word') and big: continue
                if nm in('losses','isPlain'): print('(maybe size)',end=' ')
                def h(x):
                    a=x.split()
                    return a[0]+' '+bytes.fromhex(a[1]).decode('latin1') if len(a)>1 else x
                print('seed',seed,'line',i,':',l,'| got',h(g),'| want',h(e)); fails+=1
                f=open('fail_%d.txt'%seed,'w',encoding='latin1'); f.write('\n'.join(a+'   -> '+(h(b)) for a,b in sc[:i+1])); f.close()
                break
    print('calls',total,'fails',fails)
    if '-s' in sys.argv: print(stats)
if __name__=='__main__': main()
